import java.util.ArrayList;
import java.util.List;

/** Promises 20, 25 to 29 on tapes whose bytes were turned, by spoil(), into SEGMENTS that no WRITER made. */
public final class ForgedTests {
  private static int wrong = 0;

  private static void due(int promise, String call, long got, long want) {
    if (got == want) return;
    wrong++;
    System.out.println("promise " + promise + ": " + call + " answered " + got + ", due is " + want);
  }

  /** Tape 0 has so many SEGMENTS of 1,057 bytes behind its LABEL. */
  private static StubHouse written(int files) {
    StubHouse x = new StubHouse();
    x.marks(0, 0, 0);
    x.marks(1, 0, 0);
    for (int f = 1; f <= files; f++) {
      x.make(0, 'a' + f, false);
      for (int i = 0; i < 4; i++) {
        x.fill(256, 0);
        x.write(f, 256 * i);
      }
      x.step(90);
      x.sync();
    }
    due(25, "bytes of the tape", x.tape(0, 0), 8 + 1057 * files);
    return x;
  }

  private static int check(int[] bytes, int from, int to) {
    int h = 17;
    for (int i = from; i < to; i++) {
      h = (h ^ bytes[i]) * 0x01000193;
      h = h ^ (h >>> 15);
    }
    return h;
  }

  private static int put(int[] bytes, int at, int count, long number) {
    for (int i = 0; i < count; i++) bytes[at + i] = (int) (number >>> (8 * i)) & 255;
    return at + count;
  }

  private static int[] made(int sort, long id, long version, long stamp, int depth, int size, long... names) {
    int[] b = new int[21 + 8 * names.length + (sort == 1 ? size + 4 : 0)];
    int at = put(b, 0, 1, 83);
    at = put(b, at, 1, sort);
    at = put(b, at, 4, id);
    at = put(b, at, 4, version);
    at = put(b, at, 4, stamp);
    at = put(b, at, 1, depth);
    for (long n : names) at = put(b, at, 8, n);
    at = put(b, at, 2, size);
    at = put(b, at, 4, check(b, 0, at));
    if (sort == 1) {
      for (int i = 0; i < size; i++) b[at + i] = (7 * i) & 255;
      put(b, at + size, 4, check(b, at, at + size));
    }
    return b;
  }

  private static int[] file(long id, long version, long stamp, int size, long... names) {
    return made(1, id, version, stamp, names.length, size, names);
  }

  /** Puts bytes onto tape 0 from place 8 on, 0s behind them. */
  private static void forge(StubHouse x, List<int[]> parts) {
    int place = 8;
    for (int[] p : parts) for (int b : p) turn(x, place++, b);
    while (place < x.tape(0, 0)) turn(x, place++, 0);
  }

  private static void forge(StubHouse x, int[]... parts) {
    forge(x, List.of(parts));
  }

  private static void turn(StubHouse x, int place, int to) {
    int mask = x.byteOf(0, place) ^ to;
    if (mask != 0) x.spoil(0, place, mask);
  }

  private static void found() {
    StubHouse x = written(1);
    int most = 16777215;
    long[] numbers = {1, most, 0, most + 1, 0x80000000L, 0xffffffffL};
    for (int i = 0; i < numbers.length; i++) {
      long n = numbers[i];
      int want = i < 2 ? 1 : 0;
      forge(x, file(n, 5, 5, 9, 'q'));
      due(28, "FOUND with ID " + n, x.tape(0, 2), want);
      forge(x, file(5, n, 5, 9, 'q'));
      due(28, "FOUND with VERSION " + n, x.tape(0, 2), want);
      forge(x, file(5, 5, n, 9, 'q'));
      due(28, "FOUND with STAMP " + n, x.tape(0, 2), want);
      if (want == 1) due(28, "STAMP", x.segment(0, 0, 4), n);
    }
    for (int sort = 0; sort < 5; sort++) {
      forge(x, made(sort, 5, 5, 5, sort == 2 ? 0 : 1, 0, sort == 2 ? new long[0] : new long[] {'q'}));
      due(28, "FOUND of sort " + sort, x.tape(0, 2), sort == 1 || sort == 2 ? 1 : 0);
    }
    for (int depth = 0; depth < 8; depth++) {
      long[] names = new long[depth];
      for (int i = 0; i < depth; i++) names[i] = 'a' + i;
      forge(x, file(5, 6, 7, 3, names));
      due(28, "a FILE of DEPTH " + depth, x.tape(0, 2), depth >= 1 && depth <= 5 ? 1 : 0);
      forge(x, made(2, 5, 1, 7, depth, 0, names));
      due(28, "a DELETE of DEPTH " + depth, x.tape(0, 2), depth == 0 ? 1 : 0);
    }
    forge(x, made(2, 5, 1, 7, 0, 1));
    due(28, "a DELETE of SIZE 1", x.tape(0, 2), 0);
    forge(x, made(2, 5, 9, 7, 0, 0));
    due(28, "a DELETE of another VERSION", x.tape(0, 2) * 10 + x.segment(0, 0, 3), 19);
    forge(x, file(5, 6, 7, 1024, 'q'));
    due(28, "up to the tape's end", x.tape(0, 2) * 10000 + x.segment(0, 0, 6), 11024);
    forge(x, new int[1], file(5, 6, 7, 1023, 'q'));
    due(28, "one byte on", x.tape(0, 2) * 10 + x.segment(0, 0, 0), 19);
    turn(x, 9 + 15 + 8, 0);
    due(28, "its SIZE is another", x.tape(0, 2), 0);
  }

  /** What tells of bytes behind the tape's end is none, until they are there. */
  private static void behindTheEnd() {
    StubHouse x = written(2);
    List<int[]> parts = new ArrayList<>();
    parts.add(new int[1057 + 900]);
    int[] head = file(5, 6, 7, 300, 'q');
    int[] there = new int[157];
    System.arraycopy(head, 0, there, 0, 157);
    parts.add(there);
    forge(x, parts);
    due(28, "not within the tape", x.tape(0, 2), 0);
    x.make(0, 'z', false);
    x.fill(256, 3);
    x.write(3, 0);
    x.step(90);
    due(28, "it goes into what was written later", x.tape(0, 2) * 100 + x.tape(0, 3) * 10 + x.segment(0, 0, 2), 115);
    due(28, "which is not FOUND then", x.segment(0, 1, 0), StubHouse.NONE);
    due(28, "but is its COPY", x.copy(3, 0, 1), 8 + 2 * 1057);
  }

  private static void sizeAbove() {
    StubHouse x = written(2);
    forge(x, file(5, 6, 7, 1025, 'q'));
    due(28, "SIZE 1,025", x.tape(0, 2), 0);
    forge(x, file(5, 6, 7, 1024, 'q'), file(6, 7, 8, 0, 'r'));
    due(28, "SIZE 1,024 and 0", x.tape(0, 2) * 10 + x.tape(0, 3), 20);
  }

  private static void within() {
    StubHouse x = written(1);
    int[] outer = file(5, 6, 7, 200, 'q');
    int[] inner = file(8, 9, 10, 4, 'r');
    System.arraycopy(inner, 0, outer, 29 + 50, inner.length);
    put(outer, 29 + 200, 4, check(outer, 29, 29 + 200));
    forge(x, outer);
    due(28, "only the outer one", x.tape(0, 2) * 10 + x.segment(0, 0, 2), 15);
    due(28, "GOOD", x.segment(0, 0, 7), 1);
    x.spoil(0, 8 + 3, 1);
    due(28, "its ID is another: only the inner one", x.tape(0, 2) * 1000 + x.segment(0, 0, 0), 1000 + 8 + 79);
    x.spoil(0, 8 + 3, 1);
    due(28, "the outer one again", x.segment(0, 0, 2), 5);
  }

  private static void views() {
    StubHouse x = written(1);
    forge(x, file(9, 4, 7, 1, 'q'), file(9, 5, 7, 2, 'r'));
    due(29, "of like STAMPS the least place", x.view(-1, 0) * 10 + x.view(0, 4), 14);
    due(28, "both are LIVE", x.tape(0, 4), 2);
    forge(x, file(9, 4, 7, 1, 'q'), file(8, 5, 7, 2, 'q'));
    due(29, "of like STAMPS the lesser ID", x.view(-1, 0) * 10 + x.view(0, 0), 18);
    forge(x, file(9, 4, 8, 1, 'q', 'a'), file(8, 5, 7, 2, 'q', 'a', 'b'), file(7, 6, 6, 2, 'q', 'b'), file(6, 3, 5, 2, 'q'));
    due(29, "paths of parts", x.view(-1, 0) * 100 + x.view(0, 0) * 10 + x.view(1, 0), 279);
    forge(x, file(9, 4, 8, 1, 'q'), file(8, 5, 7, 2, 'q', 'b'), file(7, 6, 6, 2, 'r', 'b'), file(7, 6, 9, 2, 'q', 'b'));
    due(29, "the greatest STAMP of an ID alone is looked at", x.view(-1, 0) * 10 + x.view(0, 0), 17);
    forge(x, file(9, 4, 8, 1, 'q'), file(8, 5, 7, 2, 'q', 'b'), made(2, 9, 1, 9, 0, 0));
    due(29, "what is deleted is in no one's way", x.view(-1, 0) * 10 + x.view(0, 0), 18);
  }

  private static void numbersGoOn() {
    StubHouse x = written(1);
    forge(x, file(900, 5, 6, 1, 'q'), file(5, 1900, 6, 1, 'r'), file(6, 5, 2900, 1, 's'), made(2, 5000, 1, 3, 0, 0));
    x.spoil(0, 8 + 29, 1);
    due(29, "the first is not GOOD", x.view(-1, 0), 2);
    x.lose();
    due(20, "files", x.rebuild(), 2);
    due(20, "next ID", x.told(16), 5001);
    due(20, "next VERSION", x.told(19), 1901);
    due(20, "next STAMP", x.told(17), 2901);
    forge(x, file(1, 1, 1, 1, 'q'));
    x.lose();
    due(20, "a file", x.rebuild(), 1);
    due(20, "not less than they were", x.told(16) - x.told(17), 5001 - 2901);
  }

  private static void namesThatAreNone() {
    StubHouse x = written(1);
    forge(x, file(1, 1, 1, 1, 'a', 'B', 'c'), file(2, 2, 2, 0, 'b', 'c'), file(3, 3, 3, 5, 0), file(4, 4, 4, 5, 'd', 'e', 'f', 'g', '%'));
    due(29, "they are in THE VIEW", x.view(-1, 0), 4);
    x.lose();
    due(20, "one is left", x.rebuild(), 1);
    due(20, "directories made stay", x.find(0, 'a') * 10 + x.find(0, 'b'), 12);
    due(20, "with what is below them", x.told(18), 8);
    int n = x.find(x.find(0, 'b'), 'c');
    due(20, "of SIZE 0", x.about(n, 3) * 1000 + x.about(n, 4) * 100 + x.about(n, 7) * 10 + x.about(n, 10), 2010);
  }

  private static void sixtyNodes() {
    StubHouse x = written(3);
    List<int[]> parts = new ArrayList<>();
    for (int i = 0; i < 57; i++) parts.add(file(10 + i, 5, 100 + i, 0, 'a' + (long) ('a' + i / 26 << 8) + (long) ('a' + i % 26 << 16)));
    parts.add(file(80, 5, 300, 1, 'x', 'y', 'z'));
    parts.add(file(81, 5, 301, 1, 'x', 'b'));
    forge(x, parts);
    due(29, "in THE VIEW", x.view(-1, 0), 59);
    x.lose();
    due(20, "files", x.rebuild(), 57);
    due(20, "60 nodes: the directories stay", x.told(18) * 1000 + x.find(0, 'x') * 10 + x.about(x.find(58, 'y'), 0), 60000 + 580 + 1);
    due(20, "no file of them", x.find(59, 'z') * 10 + x.find(58, 'b'), -22);
  }

  /** Two SEGMENTS of one VERSION on one tape: a crash took the COPY away, and it was written again. */
  private static void writtenTwice() {
    StubHouse x = new StubHouse();
    x.marks(0, 0, 0);
    x.marks(1, 0, 0);
    x.make(0, 'a', false);
    x.fill(40, 1);
    x.write(1, 0);
    x.step(8);
    x.crash(59);
    x.step(40);
    due(20, "twice on tape 0", x.tape(0, 2) * 100 + x.copy(1, 0, 1), 281);
    due(25, "both are the file's, the later one is LIVE", x.segment(0, 0, 8) * 10 + x.segment(0, 1, 8), 1);
    x.lose();
    x.rebuild();
    due(20, "the least place of the tape", x.about(1, 7) * 100 + x.copy(1, 0, 1), 108);
    due(25, "both are LIVE", x.tape(0, 4), 2);
  }

  public static void main(String[] args) {
    found();
    behindTheEnd();
    sizeAbove();
    within();
    views();
    numbersGoOn();
    namesThatAreNone();
    sixtyNodes();
    writtenTwice();
    if (wrong > 0) System.exit(1);
  }
}
