/** Promises 1 to 5, 11, 12: a new object, and the tree. */
public final class TreeTests {
  private static int wrong = 0;

  private static void due(int promise, String call, long got, long want) {
    if (got == want) return;
    wrong++;
    System.out.println("promise " + promise + ": " + call + " answered " + got + ", due is " + want);
  }

  private static long name(String s) {
    long n = 0;
    for (int i = s.length() - 1; i >= 0; i--) n = n << 8 | s.charAt(i);
    return n;
  }

  /** Directories a, b, c, d below one another (nodes 1 to 4), and a file e in the last one (5). */
  private static StubHouse deep() {
    StubHouse x = new StubHouse();
    for (int i = 0; i < 4; i++) x.make(i, 'a' + i, true);
    x.make(4, 'e', false);
    return x;
  }

  private static void newObject() {
    StubHouse x = new StubHouse();
    int[] want = {0, 0, 0, 0, 48, 160, 0, 0, 0, 0, 0, 0, 0, StubHouse.NONE, 0, 0, 1, 1, 1, 1};
    for (int i = 0; i < want.length; i++) due(1, "told(" + i + ")", x.told(i), want[i]);
    for (int t = 0; t < 6; t++) for (int i = 0; i < 5; i++) due(1, "tape(" + t + ", " + i + ")", x.tape(t, i), 0);
    for (int d = 0; d < 2; d++) {
      due(1, "drive(" + d + ", 0)", x.drive(d, 0), StubHouse.NONE);
      for (int i = 1; i < 4; i++) due(1, "drive(" + d + ", " + i + ")", x.drive(d, i), 0);
    }
    due(1, "about(0, 0)", x.about(0, 0), 1);
    for (int n = 1; n < 60; n++) due(1, "about(" + n + ", 0)", x.about(n, 0), 0);
    due(1, "view(-1, 0)", x.view(-1, 0), 0);
    due(1, "constants", StubHouse.BAD * 1L + StubHouse.NONE * 10 + StubHouse.ROOM * 100 + StubHouse.RECALLING * 1000
        + StubHouse.DAMAGED * 10000 + StubHouse.STATE * 100000 + StubHouse.TAKEN * 1000000 + StubHouse.LOST * 10000000, -87654321L);
  }

  private static void make() {
    StubHouse x = new StubHouse();
    due(2, "make a directory", x.make(0, 'a', true), 1);
    due(2, "make a file", x.make(1, 'a', false), 2);
    due(2, "the longest name", x.make(0, name("az09az09"), false), 3);
    due(2, "its name", x.name(3), name("az09az09"));
    for (int over : new int[] {-1, 2, 4, 59, 60, Integer.MAX_VALUE, Integer.MIN_VALUE}) due(2, "over " + over, x.make(over, 'b', true), StubHouse.BAD);
    long[] none = {0, 'A', ' ', '/', ':', '`', '{', name("a") << 8, name("a\0b"), name("ab") | 'Z' << 16, -1, 97L << 56, Long.MIN_VALUE | 97};
    for (long n : none) due(2, "name " + n, x.make(0, n, false), StubHouse.BAD);
    due(2, "BAD ahead of TAKEN", x.make(2, 'a', true), StubHouse.BAD);
    due(2, "TAKEN by another sort", x.make(0, 'a', false), StubHouse.TAKEN);
    due(2, "TAKEN", x.make(1, 'a', false), StubHouse.TAKEN);
    due(2, "records of all that was done", x.told(9) * 1000 + x.told(10), 3 * 1000 + 48);
    due(2, "next ID", x.told(16), 3);
    due(2, "next VERSION", x.told(19), 3);
    x.remove(2);
    due(2, "the least number that is none", x.make(0, 'c', true), 2);
    StubHouse d = deep();
    due(2, "DEPTH 5", d.about(5, 2), 5);
    due(2, "a directory at DEPTH 5", d.make(4, 'f', true), 6);
    due(2, "DEPTH 6", d.make(6, 'g', false), StubHouse.ROOM);
    due(2, "TAKEN ahead of ROOM", d.make(4, 'e', true), StubHouse.TAKEN);
    for (int n = 7; n < 60; n++) due(2, "node " + n, d.make(0, name("n" + n), n % 2 == 0), n);
    due(2, "60 nodes", d.make(0, 'z', false), StubHouse.ROOM);
    due(2, "TAKEN with 60 nodes", d.make(0, 'a', false), StubHouse.TAKEN);
    due(2, "nodes that are", d.told(18), 60);
    d.remove(33);
    due(2, "room again", d.make(0, 'z', false), 33);
    d.lose();
    due(2, "LOST ahead of BAD", d.make(-1, 0, false), StubHouse.LOST);
  }

  private static void find() {
    StubHouse x = deep();
    due(3, "a directory", x.find(0, 'a'), 1);
    due(3, "a file", x.find(4, 'e'), 5);
    due(3, "in another directory", x.find(0, 'e'), StubHouse.NONE);
    due(3, "no NAME at all", x.find(0, 0), StubHouse.NONE);
    for (int over : new int[] {-1, 5, 6, 60}) due(3, "over " + over, x.find(over, 'e'), StubHouse.BAD);
    x.remove(5);
    due(3, "removed", x.find(4, 'e'), StubHouse.NONE);
    x.move(4, 0, 'x');
    due(3, "moved", x.find(0, 'x') * 10 + x.find(3, 'd'), 4 * 10 + StubHouse.NONE);
    x.lose();
    due(3, "LOST ahead of BAD", x.find(60, 'a'), StubHouse.LOST);
  }

  private static void remove() {
    StubHouse x = deep();
    for (int n : new int[] {0, -1, 6, 59, 60, Integer.MIN_VALUE}) due(4, "remove(" + n + ")", x.remove(n), StubHouse.BAD);
    for (int n = 1; n < 5; n++) due(4, "a directory that has nodes", x.remove(n), StubHouse.STATE);
    x.fill(65, 1);
    x.write(5, 0);
    due(4, "a file", x.remove(5), 0);
    due(4, "its BLOCKS are HELD", x.told(3) * 100 + x.told(1), 300);
    due(4, "none FREE of them", x.told(4), 45);
    due(4, "it is none", x.about(5, 0), 0);
    due(4, "again", x.remove(5), StubHouse.BAD);
    due(4, "a directory", x.remove(4), 0);
    due(4, "bytes", x.told(10), 5 * 16 + 20 + 6 + 6);
    due(4, "no DELETE: it was on no tape", x.told(8), 0);
    x.sync();
    due(4, "FREE behind a SYNC", x.told(4), 48);
    x.lose();
    due(4, "LOST ahead of BAD", x.remove(0), StubHouse.LOST);
  }

  private static void move() {
    StubHouse x = deep();
    for (int n : new int[] {0, -1, 6, 60}) due(5, "move(" + n + ")", x.move(n, 0, 'z'), StubHouse.BAD);
    for (int over : new int[] {-1, 5, 6, 60}) due(5, "move to " + over, x.move(5, over, 'z'), StubHouse.BAD);
    due(5, "no NAME", x.move(5, 0, 'Z'), StubHouse.BAD);
    due(5, "in itself", x.move(2, 2, 'z'), StubHouse.STATE);
    due(5, "below itself", x.move(1, 4, 'z'), StubHouse.STATE);
    due(5, "BAD ahead of STATE", x.move(1, 4, 0), StubHouse.BAD);
    due(5, "TAKEN ahead of STATE", x.move(1, 4, 'e'), StubHouse.TAKEN);
    due(5, "the same", x.move(5, 4, 'e'), 0);
    due(5, "a record also then", x.told(10), 6 * 16);
    due(5, "another name", x.move(1, 0, 'z'), 0);
    due(5, "another directory", x.make(0, 'y', true), 6);
    due(5, "DEPTH of what is below", x.move(1, 6, 'a'), StubHouse.ROOM);
    due(5, "TAKEN ahead of ROOM", x.make(6, 'a', false) * 100 + x.move(1, 6, 'a'), 700 + StubHouse.TAKEN);
    due(5, "up", x.move(3, 0, 'c'), 0);
    due(5, "DEPTHS of those below", x.about(4, 2) * 10 + x.about(5, 2), 23);
    due(5, "ROOM is left now", x.move(1, 6, 'b'), 0);
    due(5, "OVER", x.about(1, 1), 6);
    due(5, "TAKEN", x.move(3, 6, 'b'), StubHouse.TAKEN);
    x.make(4, 'd', true);
    due(5, "a file at DEPTH 5, then 6", x.move(3, 2, 'c') , StubHouse.ROOM);
    x.lose();
    due(5, "LOST ahead of BAD", x.move(0, 0, 0), StubHouse.LOST);
  }

  private static void about() {
    StubHouse x = deep();
    x.step(7);
    x.fill(100, 0);
    x.write(5, 0);
    long[] want = {2, 4, 5, 1, 100, 2, 7, 0, 4, 0, 1};
    for (int i = 0; i < want.length; i++) due(11, "about(5, " + i + ")", x.about(5, i), want[i]);
    long[] root = {1, StubHouse.NONE, 0};
    for (int i = 0; i < 12; i++) due(11, "about(0, " + i + ")", x.about(0, i), i < 3 ? root[i] : StubHouse.BAD);
    for (int i = 1; i < 12; i++) due(11, "about(9, " + i + ")", x.about(9, i), StubHouse.BAD);
    due(11, "about(9, 0)", x.about(9, 0), 0);
    for (int n : new int[] {-1, 60}) due(11, "about(" + n + ", 0)", x.about(n, 0), StubHouse.BAD);
    for (int i : new int[] {-1, 11}) due(11, "about(5, " + i + ")", x.about(5, i), StubHouse.BAD);
    x.cut(5, 0);
    due(11, "of SIZE 0", x.about(5, 10), 0);
    x.step(2);
    x.fill(2, 0);
    x.write(5, 0);
    x.step(1);
    due(11, "TOUCH of a write", x.about(5, 6), 9);
    x.read(5, 2);
    due(11, "TOUCH stays when nothing is read", x.about(5, 6), 9);
    x.read(5, 1);
    due(11, "TOUCH of a read", x.about(5, 6), 10);
    x.lose();
    due(11, "LOST ahead of BAD", x.about(60, 99), StubHouse.LOST);
  }

  private static void name() {
    StubHouse x = deep();
    due(12, "name(1)", x.name(1), 'a');
    due(12, "name(5)", x.name(5), 'e');
    for (int n : new int[] {0, -1, 6, 60, Integer.MAX_VALUE}) due(12, "name(" + n + ")", x.name(n), 0);
    x.move(5, 0, name("zzzzzzzz"));
    due(12, "all eight bytes", x.name(5), 0x7a7a7a7a7a7a7a7aL);
    x.lose();
    due(12, "LOST", x.name(5), 0);
  }

  public static void main(String[] args) {
    newObject();
    make();
    find();
    remove();
    move();
    about();
    name();
    if (wrong > 0) System.exit(1);
  }
}
