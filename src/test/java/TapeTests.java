/** Promises 25 to 29: what is on tapes, and THE VIEW. */
public final class TapeTests {
  private static int wrong = 0;

  private static void due(int promise, String call, long got, long want) {
    if (got == want) return;
    wrong++;
    System.out.println("promise " + promise + ": " + call + " answered " + got + ", due is " + want);
  }

  private static int write(StubHouse x, int file, int place, int count, int v) {
    int size = 0;
    for (int done = 0; done < count; done += 256) {
      x.fill(Math.min(256, count - done), v + done);
      size = x.write(file, place + done);
    }
    return size;
  }

  private static StubHouse sinking() {
    StubHouse x = new StubHouse();
    x.marks(0, 0, 0);
    x.marks(1, 0, 0);
    return x;
  }

  private static int check(int[] bytes, int from, int to) {
    int h = 17;
    for (int i = from; i < to; i++) {
      h = (h ^ bytes[i]) * 0x01000193;
      h = h ^ (h >>> 15);
    }
    return h;
  }

  private static int put(int[] bytes, int at, int count, long number) {
    for (int i = 0; i < count; i++) bytes[at + i] = (int) (number >>> (8 * i)) & 255;
    return at + count;
  }

  /** d/a (2, 40 bytes from 200 on) at 8 and b (3, 50 bytes) at 89 on tape 0. */
  private static StubHouse twoOnTape() {
    StubHouse x = sinking();
    x.make(0, 'd', true);
    x.make(1, 'a' | 'z' << 8, false);
    x.make(0, 'b', false);
    write(x, 2, 0, 40, 200);
    write(x, 3, 0, 50, 5);
    x.step(60);
    return x;
  }

  private static void bytes() {
    StubHouse x = sinking();
    x.make(0, 'd', true);
    x.make(1, 'a' | 'z' << 8, false);
    write(x, 2, 0, 40, 200);
    x.step(60);
    int[] want = new int[8 + 81];
    put(want, 0, 4, 84);
    put(want, 4, 4, check(want, 0, 4));
    int at = put(want, 8, 2, 83 | 1 << 8);
    at = put(want, at, 4, 1);
    at = put(want, at, 4, 2);
    at = put(want, at, 4, 1);
    at = put(want, at, 1, 2);
    at = put(want, at, 8, 'd');
    at = put(want, at, 8, 'a' | 'z' << 8);
    at = put(want, at, 2, 40);
    at = put(want, at, 4, check(want, 8, at));
    for (int i = 0; i < 40; i++) want[at + i] = (200 + i) & 255;
    put(want, at + 40, 4, check(want, at, at + 40));
    due(25, "bytes", x.tape(0, 0), want.length);
    for (int i = 0; i < want.length; i++) due(26, "byteOf(0, " + i + ")", x.byteOf(0, i), want[i]);
    for (int p : new int[] {-1, want.length, 6000, Integer.MAX_VALUE, Integer.MIN_VALUE}) due(26, "place " + p, x.byteOf(0, p), StubHouse.BAD);
    for (int t : new int[] {-1, 6, 1, Integer.MIN_VALUE}) due(26, "tape " + t, x.byteOf(t, 0), StubHouse.BAD);
    x.remove(2);
    x.sync();
    x.step(20);
    int[] delete = new int[21];
    at = put(delete, 0, 2, 83 | 2 << 8);
    at = put(delete, at, 4, 1);
    at = put(delete, at, 4, 1);
    at = put(delete, at, 4, 2);
    at = put(delete, at, 3, 0);
    put(delete, at, 4, check(delete, 0, at));
    due(25, "with a DELETE", x.tape(0, 0), want.length + 21);
    for (int i = 0; i < 21; i++) due(26, "byte " + i + " of a DELETE", x.byteOf(0, want.length + i), delete[i]);
    x.reclaim(0);
    x.step(60);
    due(26, "BLANK", x.byteOf(0, 0), StubHouse.BAD);
    x.make(0, 'q', false);
    write(x, 2, 0, 1, 0);
    x.step(60);
    due(26, "GENERATION", x.byteOf(0, 2) * 10 + x.byteOf(0, 3), 10);
    int[] label = {84, 0, 1, 0};
    for (int i = 0; i < 4; i++) due(26, "CHECK of the LABEL", x.byteOf(0, 4 + i), (check(label, 0, 4) >>> (8 * i)) & 255);
  }

  private static void tape() {
    StubHouse x = twoOnTape();
    int[] want = {8 + 81 + 83, 0, 2, 0, 2};
    for (int i = 0; i < 5; i++) due(25, "tape(0, " + i + ")", x.tape(0, i), want[i]);
    for (int i = 0; i < 5; i++) due(25, "tape(5, " + i + ")", x.tape(5, i), 0);
    for (int t : new int[] {-1, 6, Integer.MAX_VALUE}) due(25, "tape(" + t + ", 0)", x.tape(t, 0), StubHouse.BAD);
    for (int i : new int[] {-1, 5}) due(25, "tape(0, " + i + ")", x.tape(0, i), StubHouse.BAD);
    x.cut(2, 0);
    due(25, "no COPY, but the last of its ID", x.tape(0, 4), 2);
    write(x, 2, 0, 3, 0);
    x.step(60);
    due(25, "a later one is on tape", x.tape(0, 2) * 10 + x.tape(0, 4), 32);
    x.lose();
    due(25, "LOST", x.tape(0, 2) * 10 + x.tape(0, 4), 32);
  }

  private static void spoil() {
    StubHouse x = twoOnTape();
    for (int t : new int[] {-1, 6, 1}) due(27, "tape " + t, x.spoil(t, 0, 1), StubHouse.BAD);
    for (int p : new int[] {-1, 172, Integer.MAX_VALUE}) due(27, "place " + p, x.spoil(0, p, 1), StubHouse.BAD);
    for (int m : new int[] {0, 256, -1, Integer.MIN_VALUE}) due(27, "mask " + m, x.spoil(0, 0, m), StubHouse.BAD);
    due(27, "nothing was changed", x.byteOf(0, 0), 84);
    due(27, "the LABEL", x.spoil(0, 0, 255), 84 ^ 255);
    due(27, "is not looked at", x.tape(0, 2), 2);
    due(27, "a byte of a file", x.spoil(0, 8 + 37, 128), 200 ^ 128);
    due(27, "FOUND, but not GOOD", x.tape(0, 2) * 100 + x.tape(0, 3) * 10 + x.tape(0, 4), 211);
    due(27, "back", x.spoil(0, 8 + 37, 128), 200);
    due(27, "GOOD", x.tape(0, 3), 0);
    due(27, "a byte of the second CHECK", x.byteOf(0, 88) ^ x.spoil(0, 88, 1), 1);
    due(27, "not GOOD", x.segment(0, 0, 7), 0);
    x.spoil(0, 88, 1);
    for (int p = 8; p < 8 + 37; p++) {
      x.spoil(0, p, 64);
      due(27, "FOUND without the one whose head was spoiled at " + p, x.tape(0, 2) * 1000 + x.segment(0, 0, 0), 1089);
      x.spoil(0, p, 64);
    }
    due(27, "all as before", x.tape(0, 2) * 100 + x.tape(0, 3) * 10 + x.tape(0, 4), 202);
    due(27, "the last byte", x.byteOf(0, 171) ^ x.spoil(0, 171, 3), 3);
    x.lose();
    due(27, "never LOST", x.spoil(0, 0, 255), 84);
  }

  private static void spoiledCopies() {
    StubHouse x = sinking();
    x.copies(2);
    x.make(0, 'a', false);
    write(x, 1, 0, 40, 50);
    x.step(60);
    x.spoil(0, 8 + 29, 1);
    x.marks(0, 40, 30);
    x.read(1, 3);
    x.step(8);
    due(27, "the first COPY goes", x.about(1, 7) * 100 + x.copy(1, 0, 0) * 10 + x.told(6), 111);
    x.step(20);
    due(27, "RECALLED from the other one", x.read(1, 3), 53);
  }

  private static void segment() {
    StubHouse x = twoOnTape();
    int[][] want = {{8, 1, 1, 3, 1, 2, 40, 1, 1}, {89, 1, 2, 4, 2, 1, 50, 1, 1}};
    for (int i = 0; i < 2; i++) for (int k = 0; k < 9; k++) due(28, "segment(0, " + i + ", " + k + ")", x.segment(0, i, k), want[i][k]);
    due(28, "none such", x.segment(0, 2, 0), StubHouse.NONE);
    due(28, "of a BLANK tape", x.segment(3, 0, 8), StubHouse.NONE);
    due(28, "the greatest i", x.segment(0, Integer.MAX_VALUE, 0), StubHouse.NONE);
    for (int t : new int[] {-1, 6}) due(28, "tape " + t, x.segment(t, 0, 0), StubHouse.BAD);
    for (int i : new int[] {-1, Integer.MIN_VALUE}) due(28, "i " + i, x.segment(0, i, 0), StubHouse.BAD);
    for (int k : new int[] {-1, 9}) due(28, "what " + k, x.segment(0, 0, k), StubHouse.BAD);
    due(28, "BAD ahead of NONE", x.segment(0, 9, 9), StubHouse.BAD);
    x.remove(3);
    x.sync();
    x.step(30);
    int[] delete = {172, 2, 2, 1, 3, 0, 0, 1, 0};
    for (int k = 0; k < 9; k++) due(28, "segment(0, 2, " + k + ") of a DELETE", x.segment(0, 2, k), delete[k]);
    due(28, "what it deletes is not LIVE", x.segment(0, 1, 8) * 10 + x.segment(0, 0, 8), 1);
  }

  private static void view() {
    StubHouse x = twoOnTape();
    due(29, "how many", x.view(-1, 0), 2);
    int[][] want = {{1, 0, 8, 40, 3}, {2, 0, 89, 50, 4}};
    for (int i = 0; i < 2; i++) for (int k = 0; k < 5; k++) due(29, "view(" + i + ", " + k + ")", x.view(i, k), want[i][k]);
    due(29, "none such", x.view(2, 0), StubHouse.NONE);
    due(29, "none such", x.view(Integer.MAX_VALUE, 4), StubHouse.NONE);
    for (int i : new int[] {-2, Integer.MIN_VALUE}) due(29, "i " + i, x.view(i, 0), StubHouse.BAD);
    for (int k : new int[] {-1, 5}) due(29, "what " + k, x.view(0, k), StubHouse.BAD);
    due(29, "BAD ahead of NONE", x.view(7, 5), StubHouse.BAD);
    due(29, "what of how many", x.view(-1, 5), StubHouse.BAD);
    x.spoil(0, 89 + 29, 1);
    due(29, "one that is not GOOD", x.view(-1, 0) * 10 + x.view(0, 0), 11);
    x.spoil(0, 89 + 29, 1);
    x.remove(3);
    x.sync();
    x.step(30);
    due(29, "one that is deleted", x.view(-1, 0) * 10 + x.view(0, 0), 11);
    x.cut(2, 0);
    write(x, 2, 0, 9, 0);
    x.step(30);
    due(29, "the greatest STAMP", x.view(0, 3), 9);
    x.lose();
    due(29, "LOST", x.view(-1, 0), 1);
  }

  /** Paths of two IDs: the later one stays, if one is the other's or goes through it. */
  private static void clashes() {
    StubHouse x = sinking();
    x.make(0, 'a', false);
    write(x, 1, 0, 10, 0);
    x.step(30);
    x.remove(1);
    x.make(0, 'a', false);
    write(x, 1, 0, 20, 0);
    x.step(30);
    due(29, "the same path", x.view(-1, 0) * 10 + x.view(0, 0), 12);
    x.remove(1);
    x.make(0, 'a', true);
    x.make(1, 'b', false);
    x.make(1, 'c', false);
    write(x, 2, 0, 30, 0);
    write(x, 3, 0, 30, 0);
    x.step(30);
    due(29, "through another one", x.view(-1, 0) * 100 + x.view(0, 0) * 10 + x.view(1, 0), 234);
    due(29, "without the others", x.tape(0, 2), 4);
    x.remove(2);
    x.remove(3);
    x.remove(1);
    x.make(0, 'a', false);
    write(x, 1, 0, 40, 0);
    x.step(30);
    due(29, "another one goes through it", x.view(-1, 0) * 10 + x.view(0, 0), 15);
    x.lose();
    due(20, "REBUILT", x.rebuild() * 10 + x.told(18), 12);
    due(20, "ID", x.about(1, 3), 5);
  }

  private static void fullTapes() {
    StubHouse x = sinking();
    for (int f = 1; f <= 13; f++) {
      x.make(0, 'a' + f, false);
      write(x, f, 0, 1024, f);
      x.step(90);
      x.sync();
    }
    due(25, "five files of 1,057 bytes", x.tape(0, 0), 8 + 5 * 1057);
    due(25, "the next tape", x.tape(1, 0), 8 + 5 * 1057);
    due(25, "and the next", x.tape(2, 0), 8 + 3 * 1057);
    due(25, "all are LIVE", x.tape(0, 4) * 100 + x.tape(1, 4) * 10 + x.tape(2, 4), 553);
  }

  public static void main(String[] args) {
    bytes();
    tape();
    spoil();
    spoiledCopies();
    segment();
    view();
    clashes();
    fullTapes();
    if (wrong > 0) System.exit(1);
  }
}
