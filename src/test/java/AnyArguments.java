import java.util.Random;

/** Any arguments in any state: no call throws, the same calls give the same answers, all BLOCKS are told of. */
public final class AnyArguments {
  private static final int[] INTS = {0, 1, -1, 2, 3, 5, 6, 7, 8, 9, 31, 32, 33, 48, 59, 60, 160, 255, 256, 257, 500, 501, 1024, 1025, 5999, 6000,
      Integer.MAX_VALUE, Integer.MIN_VALUE, Integer.MAX_VALUE - 7, Integer.MIN_VALUE + 7};
  private static final long[] LONGS = {0, 97, 98, 99, 0x6261, -1, Long.MAX_VALUE, Long.MIN_VALUE, 0x7a7a7a7a7a7a7a7aL, 0x617a00, 97L << 56};

  private static int any(Random r) {
    return r.nextInt(3) == 0 ? INTS[r.nextInt(INTS.length)] : r.nextInt(10);
  }

  private static long answer(StubHouse x, int call, int a, int b, int c, long l) {
    switch (call) {
      case 0: return x.make(a, l, (c & 1) == 0);
      case 1: return x.find(a, l);
      case 2: return x.remove(a);
      case 3: return x.move(a, b, l);
      case 4: return x.feed(a, l);
      case 5: return x.fill(a, b);
      case 6: return x.write(a, b);
      case 7: return x.cut(a, b);
      case 8: return x.read(a, b);
      case 9: return x.about(a, b);
      case 10: return x.name(a);
      case 11: return x.block(a, b);
      case 12: return x.copy(a, b, c);
      case 13: return x.marks(a, b, c);
      case 14: return x.copies(a);
      case 15: return x.sync();
      case 16: return (c & 7) == 0 ? x.crash(a) : 0;
      case 17: return (c & 31) == 0 ? x.lose() : 0;
      case 18: return x.rebuild();
      case 19: return x.step(a);
      case 20: return x.reclaim(a);
      case 21: return x.drive(a, b);
      case 22: return x.told(a);
      case 23: return x.tape(a, b);
      case 24: return x.byteOf(a, b);
      case 25: return x.spoil(a, b, c);
      case 26: return x.segment(a, b, c);
      default: return x.view(a, b);
    }
  }

  public static void main(String[] args) {
    int wrong = 0;
    for (int seed = 0; seed < 400; seed++) {
      Random r = new Random(seed);
      StubHouse x = new StubHouse();
      StubHouse y = new StubHouse();
      for (int i = 0; i < 512; i++) {
        int call = r.nextInt(28);
        if (r.nextInt(3) == 0) call = new int[] {0, 5, 6, 6, 19, 8}[r.nextInt(6)];
        int a = any(r), b = any(r), c = any(r);
        long l = LONGS[r.nextInt(LONGS.length)];
        long got = answer(x, call, a, b, c, l);
        if (got != answer(y, call, a, b, c, l)) {
          wrong++;
          System.out.println("seed " + seed + ", call " + i + ": another answer to the same call");
        }
        int blocks = 0;
        for (int k = 1; k <= 5; k++) blocks += x.told(k);
        if (blocks != (x.told(14) == 1 ? 0 : 208)) {
          wrong++;
          System.out.println("seed " + seed + ", call " + i + ": " + blocks + " BLOCKS are told of");
        }
      }
    }
    if (wrong > 0) System.exit(1);
  }
}
