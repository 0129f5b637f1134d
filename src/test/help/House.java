import java.util.function.Consumer;
import java.util.function.Predicate;
import java.util.function.Supplier;
import java.util.function.ToLongFunction;

/** What the tests of edges share: houses in certain states, and a look at all that a house tells. */
final class House {
  static final int BAD = -1, NONE = -2, ROOM = -3, RECALLING = -4, DAMAGED = -5, STATE = -6, TAKEN = -7, LOST = -8;
  static final int[] FAR = {Integer.MIN_VALUE, Integer.MIN_VALUE + 1, -1000000, 1000000, Integer.MAX_VALUE - 1, Integer.MAX_VALUE};

  private static int wrong = 0;
  private static int looked = 0;
  private static String at = "";

  private House() {}

  /** The sentence of the document that the next answers are about. */
  static void sentence(String s) {
    at = s;
  }

  static void due(String call, long got, long want) {
    looked++;
    if (got == want) return;
    wrong++;
    System.out.println("[" + at + "] " + call + " answered " + got + ", due is " + want);
  }

  static void due(String call, String got, String want) {
    looked++;
    if (got.equals(want)) return;
    wrong++;
    System.out.println("[" + at + "] " + call + " told \"" + got + "\", due is \"" + want + "\"");
  }

  static void end() {
    System.out.println(looked + " answers looked at");
    if (looked == 0 || wrong > 0) System.exit(1);
  }

  static long name(String s) {
    long n = 0;
    for (int i = s.length() - 1; i >= 0; i--) n = n << 8 | s.charAt(i);
    return n;
  }

  // ---- refusals

  /** A call that is refused: its answer, and all that is told then and later is as if it had not been made. */
  static void refused(String call, long want, Supplier<StubHouse> setup, ToLongFunction<StubHouse> f) {
    refusedBut(call, want, setup, f, x -> {});
  }

  /** A call that is refused, but for something that is changed by it: it is as if only that had been done. */
  static void refusedBut(String call, long want, Supplier<StubHouse> setup, ToLongFunction<StubHouse> f, Consumer<StubHouse> change) {
    StubHouse x = setup.get();
    StubHouse y = setup.get();
    due(call, f.applyAsLong(x), want);
    change.accept(y);
    dueSame(call, x, y);
    due(call + ": later answers", later(x), later(y));
    dueSame(call + ": later", x, y);
    StubHouse v = setup.get();
    StubHouse w = setup.get();
    f.applyAsLong(v);
    change.accept(w);
    due(call + ": a crash later", v.crash(v.told(10) / 2), w.crash(w.told(10) / 2));
    dueSame(call + ": behind a crash", v, w);
  }

  static void dueSame(String call, StubHouse x, StubHouse y) {
    String[] one = state(x).split("\n");
    String[] other = state(y).split("\n");
    looked++;
    for (int i = 0; i < Math.max(one.length, other.length); i++) {
      String a = i < one.length ? one[i] : "nothing";
      String b = i < other.length ? other[i] : "nothing";
      if (a.equals(b)) continue;
      wrong++;
      System.out.println("[" + at + "] " + call + " left \"" + a + "\", due is \"" + b + "\"");
      return;
    }
  }

  /** What bytes files have, what the next steps do, what is KEPT, and what is at hand. */
  private static String later(StubHouse x) {
    StringBuilder s = new StringBuilder();
    for (int n = 0; n < 60; n++) for (int p = 0; p < x.about(n, 4); p += 13) s.append(x.read(n, p)).append(' ');
    s.append(x.step(1)).append(state(x).hashCode());
    s.append(x.sync()).append(x.step(70)).append(state(x).hashCode());
    s.append(x.lose()).append(' ').append(x.rebuild()).append(' ');
    int n = x.make(0, name("athand"), false);
    s.append(x.write(n, 0)).append(':');
    for (int p = 0; p < x.about(n, 4); p++) s.append(x.read(n, p)).append(' ');
    return s.toString();
  }

  /** All that is told by calls that change nothing. */
  static String state(StubHouse x) {
    StringBuilder s = new StringBuilder();
    for (int i = 0; i < 20; i++) s.append("told ").append(i).append(": ").append(x.told(i)).append('\n');
    for (int d = 0; d < 2; d++) {
      s.append("drive ").append(d).append(':');
      for (int i = 0; i < 4; i++) s.append(' ').append(x.drive(d, i));
      s.append('\n');
    }
    for (int n = 0; n < 60; n++) if (x.about(n, 0) != 0) stateOfNode(s, x, n);
    for (int t = 0; t < 6; t++) stateOfTape(s, x, t);
    s.append("view:");
    for (int i = 0; i < x.view(-1, 0); i++) for (int k = 0; k < 5; k++) s.append(' ').append(x.view(i, k));
    return s.append('\n').toString();
  }

  private static void stateOfNode(StringBuilder s, StubHouse x, int n) {
    s.append("node ").append(n).append(": ").append(x.name(n));
    for (int i = 0; i < 11; i++) s.append(' ').append(x.about(n, i));
    s.append(" blocks");
    for (int i = 0; i < 32; i++) s.append(' ').append(x.block(n, i));
    s.append(" copies");
    for (int i = 0; i < 2; i++) for (int k = 0; k < 2; k++) s.append(' ').append(x.copy(n, i, k));
    s.append('\n');
  }

  private static void stateOfTape(StringBuilder s, StubHouse x, int t) {
    s.append("tape ").append(t).append(':');
    for (int i = 0; i < 5; i++) s.append(' ').append(x.tape(t, i));
    int sum = 0;
    for (int p = 0; p < x.tape(t, 0); p++) sum = sum * 31 + x.byteOf(t, p);
    s.append(" bytes ").append(sum).append(" segments");
    for (int i = 0; i < x.tape(t, 2); i++) for (int k = 0; k < 9; k++) s.append(' ').append(x.segment(t, i, k));
    s.append('\n');
  }

  // ---- houses

  /** Writes so many bytes, v and on, from a place on, in parts of 256. */
  static int write(StubHouse x, int file, int place, int count, int v) {
    int size = 0;
    for (int done = 0; done < count; done += 256) {
      x.fill(Math.min(256, count - done), v + done);
      size = x.write(file, place + done);
    }
    return size;
  }

  /** A file below the root of so many bytes: its node. */
  static int file(StubHouse x, String name, int size, int v) {
    int n = x.make(0, name(name), false);
    if (size > 0) write(x, n, 0, size, v);
    return n;
  }

  /** A house in which everything sinks at once, and is to be a STUB. */
  static StubHouse sinking() {
    StubHouse x = new StubHouse();
    x.marks(0, 0, 0);
    x.marks(1, 0, 0);
    return x;
  }

  static void calm(StubHouse x) {
    x.marks(0, 48, 48);
    x.marks(1, 160, 160);
  }

  /** Directories a, b, c, d below one another (1 to 4), then e: a directory (5) at DEPTH 5. */
  static StubHouse deep() {
    StubHouse x = new StubHouse();
    for (int i = 0; i < 5; i++) x.make(i, 'a' + i, true);
    return x;
  }

  /** A file (1) of 40 bytes, 100 and on, that sinks: in 7 STEPS it is being written, in 8 it is a STUB. */
  static StubHouse sinkingFile() {
    StubHouse x = sinking();
    file(x, "a", 40, 100);
    return x;
  }

  /** That file as a STUB with a COPY on tape 0 at 8; nothing sinks any more, all is KEPT. */
  static StubHouse stub() {
    StubHouse x = sinkingFile();
    x.step(10);
    calm(x);
    x.sync();
    return x;
  }

  /** That file as a STUB without COPIES. */
  static StubHouse damaged() {
    StubHouse x = stub();
    x.spoil(0, 8 + 29, 1);
    x.read(1, 0);
    x.step(20);
    x.sync();
    return x;
  }

  static StubHouse lost() {
    StubHouse x = stub();
    x.make(0, 'd', true);
    x.lose();
    return x;
  }

  /** Files 1 to 6 of 1,024 bytes and 7 of 512: all BLOCKS are theirs, from the least on, all is KEPT. */
  static StubHouse full() {
    StubHouse x = new StubHouse();
    fillUp(x, 1, 208);
    return x;
  }

  /** Makes files, from that number on, of 32 BLOCKS and at last of what is left of so many; all is KEPT. */
  static void fillUp(StubHouse x, int first, int blocks) {
    for (int n = first, left = blocks; left > 0; n++, left -= 32) file(x, "full" + n, 32 * Math.min(32, left), n);
    x.sync();
  }

  /** A house of 60 nodes: odd ones are files, even ones directories. */
  static StubHouse crowded() {
    StubHouse x = new StubHouse();
    for (int n = 1; n < 60; n++) x.make(0, name("n" + n), n % 2 == 0);
    return x;
  }

  /** Makes RECORDS that are not KEPT up to so many, by moving a node to the place where it is. */
  static void pad(StubHouse x, int node, int count) {
    while (x.told(9) < count) x.move(node, x.about(node, 1), x.name(node));
  }

  /** STEPS one by one until something is so: how many they were; -1 if it is not so in 1,000. */
  static int stepsUntil(StubHouse x, Predicate<StubHouse> so) {
    for (int i = 0; i < 1000; i++) {
      if (so.test(x)) return i;
      x.step(1);
    }
    return -1;
  }

  /** Of the WRITER, then of the READER: tape, HEAD, ACT, STEPS to go. */
  static String drives(StubHouse x) {
    StringBuilder s = new StringBuilder();
    for (int d = 0; d < 2; d++) for (int i = 0; i < 4; i++) s.append(x.drive(d, i)).append(i < 3 ? "," : d == 0 ? " " : "");
    return s.toString();
  }

  /** STEPS one by one, with the drives as they are to be behind each. */
  static void dueDrives(String call, StubHouse x, String... want) {
    for (int i = 0; i < want.length; i++) {
      x.step(1);
      due(call + ", STEP " + (i + 1), drives(x), want[i]);
    }
  }

  // ---- bytes of tapes

  static int check(int[] bytes, int from, int to) {
    int h = 17;
    for (int i = from; i < to; i++) {
      h = (h ^ bytes[i]) * 0x01000193;
      h = h ^ (h >>> 15);
    }
    return h;
  }

  static int put(int[] bytes, int at, int count, long number) {
    for (int i = 0; i < count; i++) bytes[at + i] = (int) (number >>> (8 * i)) & 255;
    return at + count;
  }

  /** The bytes of a SEGMENT with all that it tells, its CHECKS fitting. */
  static int[] segment(int sort, long id, long version, long stamp, int depth, int size, long... names) {
    int[] b = new int[21 + 8 * names.length + (sort == 1 ? size + 4 : 0)];
    int at = put(b, 0, 1, 83);
    at = put(b, at, 1, sort);
    at = put(b, at, 4, id);
    at = put(b, at, 4, version);
    at = put(b, at, 4, stamp);
    at = put(b, at, 1, depth);
    for (long n : names) at = put(b, at, 8, n);
    at = put(b, at, 2, size);
    at = put(b, at, 4, check(b, 0, at));
    if (sort == 1) {
      for (int i = 0; i < size; i++) b[at + i] = (7 * i) & 255;
      put(b, at + size, 4, check(b, at, at + size));
    }
    return b;
  }

  static int[] fileSegment(long id, long version, long stamp, int size, long... names) {
    return segment(1, id, version, stamp, names.length, size, names);
  }

  static int[] deleteSegment(long id, long stamp) {
    return segment(2, id, 1, stamp, 0, 0);
  }

  static void turn(StubHouse x, int tape, int place, int to) {
    int mask = x.byteOf(tape, place) ^ to;
    if (mask != 0) x.spoil(tape, place, mask);
  }

  /** Turns the bytes of a tape, from a place on, into those of SEGMENTS, one behind the other: the place behind them. */
  static int forgeAt(StubHouse x, int tape, int place, int[]... parts) {
    int at = place;
    for (int[] p : parts) for (int b : p) turn(x, tape, at++, b);
    return at;
  }

  /** The same from place 8 on, and 0s behind them. */
  static void forge(StubHouse x, int tape, int[]... parts) {
    int end = x.tape(tape, 0);
    for (int at = forgeAt(x, tape, 8, parts); at < end; at++) turn(x, tape, at, 0);
  }

  /** Tapes 0 and 1 with a LABEL and 1,057 times 0 for each of so many, to be forged; no file is there, all is KEPT. */
  static StubHouse twoTapes(int times) {
    StubHouse x = sinking();
    x.copies(2);
    for (int i = 0; i < times; i++) {
      file(x, "f" + i, 1024, 0);
      x.step(120);
    }
    due("bytes of tapes 0 and 1", x.tape(0, 0) + x.tape(1, 0), 2 * (8 + 1057 * times));
    startAnew(x, 0, 1);
    return x;
  }

  /** The same with tapes 0, 1 and 2, once. */
  static StubHouse threeTapes() {
    StubHouse x = sinking();
    x.copies(2);
    file(x, "a", 1024, 0);
    x.step(120);
    x.reclaim(0);
    x.step(120);
    due("tape 0 is BLANK, 1 and 2 are not", x.tape(0, 0) * 10000 + x.tape(1, 0) + x.tape(2, 0), 2 * 1065);
    startAnew(x, 1, 2);
    x.marks(0, 0, 0);
    x.marks(1, 0, 0);
    file(x, "a", 1024, 0);
    x.step(120);
    due("bytes of tape 0", x.tape(0, 0), 1065);
    startAnew(x, 0);
    return x;
  }

  private static void startAnew(StubHouse x, int... tapes) {
    for (int t : tapes) forge(x, t);
    x.lose();
    x.rebuild();
    calm(x);
    x.copies(1);
  }
}
