import java.util.function.Supplier;

/** Edges of term 1 and of promises 1 to 5, 11, 12: each sentence that names one, in the document's order. */
public final class EdgesOfTree {
  private static final int BAD = -1, NONE = -2, ROOM = -3, STATE = -6, TAKEN = -7, LOST = -8;

  /** No NAMES: none at all, what stands beside a .. z and 0 .. 9 at the first, a middle and the last place, 0s ahead of others. */
  private static long[] badNames() {
    char[] beside = {'a' - 1, 'z' + 1, '0' - 1, '9' + 1, 'A', 'Z', ' ', '_', 1, 127, 128, 'a' + 128, '0' + 128, 255};
    long[] names = new long[3 * beside.length + 6];
    int at = 0;
    for (char c : beside) {
      names[at++] = c;
      names[at++] = House.name("ab" + c + "d");
      names[at++] = House.name("abcdefg" + c);
    }
    names[at++] = 0;
    names[at++] = House.name("\0a");
    names[at++] = House.name("a\0b");
    names[at++] = (long) 'a' << 56;
    names[at++] = House.name("abcdef\0h");
    names[at] = -1L;
    return names;
  }

  private static StubHouse some() {
    StubHouse x = House.deep();
    x.make(4, 'f', false);
    x.fill(5, 9);
    return x;
  }

  private static void newObject() {
    House.sentence("1: a root, all BLOCKS FREE, all tapes BLANK, drives empty, TIME 0");
    StubHouse x = new StubHouse();
    House.due("nodes", x.told(18) * 10 + x.about(0, 0), 11);
    House.due("FREE", x.told(4) * 1000 + x.told(5), 48160);
    for (int t = 0; t < 6; t++) House.due("tape " + t, x.tape(t, 0) + x.tape(t, 1), 0);
    for (int d = 0; d < 2; d++) House.due("drive " + d, x.drive(d, 0) * 10 + x.drive(d, 1) + x.drive(d, 2) + x.drive(d, 3), -20);
    House.due("TIME", x.told(0), 0);
    House.due("the next ID, STAMP, VERSION are 1", x.told(16) * 100 + x.told(17) * 10 + x.told(19), 111);
    House.due("nothing waits, is not KEPT, is at hand", x.told(6) + x.told(7) + x.told(8) + x.told(9) + x.told(10) + x.told(15), 0);
  }

  private static void sixtyNodes() {
    House.sentence("T1: NODES are 0 .. 59");
    StubHouse x = House.crowded();
    House.due("59 is one", x.about(59, 0), 2);
    House.due("60 is none such", x.about(60, 0), BAD);
    House.due("-1 is none such", x.about(-1, 0), BAD);
    House.due("all are told of", x.told(18), 60);
    House.due("58 has a node below it", x.remove(1) * 10 + x.make(58, 'x', false), 1);
  }

  private static void rootIsDirectory() {
    House.sentence("T1: 0 is the root, a directory, without OVER and NAME, of DEPTH 0");
    StubHouse x = new StubHouse();
    House.due("sort, OVER, DEPTH", x.about(0, 0) * 100 + x.about(0, 1) * 10 + x.about(0, 2), 80);
    House.due("NAME", x.name(0), 0);
  }

  private static void names() {
    House.sentence("T1: a NAME: its bytes from the lowest on 1 to 8 of a .. z, 0 .. 9, then 0s");
    String[] good = {"a", "z", "0", "9", "az09", "abcdefgh", "zzzzzzzz", "00000000", "99999999", "a0", "0a", "abcdefg"};
    StubHouse x = new StubHouse();
    for (int i = 0; i < good.length; i++) {
      House.due("make of " + good[i], x.make(0, House.name(good[i]), i % 2 == 0), i + 1);
      House.due("find of " + good[i], x.find(0, House.name(good[i])), i + 1);
      House.due("name of " + good[i], x.name(i + 1), House.name(good[i]));
    }
  }

  private static void alikeNames() {
    House.sentence("T1: no two of one directory have the same");
    StubHouse x = new StubHouse();
    x.make(0, House.name("ab"), true);
    House.due("one that begins alike", x.make(0, House.name("abc"), false), 2);
    House.due("one with which it begins", x.make(0, 'a', false), 3);
    House.due("the same in another directory", x.make(1, House.name("ab"), false), 4);
    House.due("the same", x.make(0, House.name("ab"), false), TAKEN);
    x.remove(4);
    x.remove(1);
    House.due("the same of one that is none any more", x.make(0, House.name("ab"), false), 1);
  }

  private static void numbersOfFiles() {
    House.sentence("T1: an ID (1, 2, .. as files are made; none is given twice)");
    StubHouse x = new StubHouse();
    x.make(0, 'a', false);
    x.make(0, 'd', true);
    x.make(0, 'b', false);
    House.due("directories take none", x.about(1, 3) * 10 + x.about(3, 3), 12);
    x.remove(3);
    House.due("not that of one that is removed", x.make(0, 'b', false) * 10 + x.about(3, 3), 33);
    x.make(0, 'a', false);
    x.make(0, 'Z', false);
    House.due("a refused one takes none", x.told(16), 4);
    x.crash(0);
    House.due("nor is one given again behind a crash", x.make(0, 'a', false) * 10 + x.about(1, 3), 14);
  }

  private static void versions() {
    House.sentence("T1: a VERSION (1, 2, .. among all files, as made, written, cut: none is given twice)");
    StubHouse x = new StubHouse();
    x.make(0, 'a', false);
    x.make(0, 'd', true);
    x.make(0, 'b', false);
    House.due("made", x.about(1, 5) * 10 + x.about(3, 5), 12);
    x.fill(3, 0);
    x.write(1, 0);
    x.cut(3, 0);
    House.due("written, cut", x.about(1, 5) * 10 + x.about(3, 5), 34);
    x.write(1, 0);
    x.cut(1, 4);
    x.cut(1, -1);
    House.due("refused ones take none", x.told(19), 5);
    x.move(1, 2, 'c');
    x.read(1, 0);
    House.due("nor do others", x.told(19) * 10 + x.about(1, 5), 53);
    x.crash(0);
    x.make(0, 'a', false);
    House.due("nor is one given again behind a crash", x.about(1, 5), 5);
  }

  private static void leastNumbers() {
    House.sentence("T1: what is new takes the least number that is none");
    StubHouse x = House.crowded();
    for (int n : new int[] {59, 7, 30, 1}) x.remove(n);
    int[] want = {1, 7, 30, 59};
    for (int i = 0; i < 4; i++) House.due("new " + i, x.make(0, House.name("new" + i), i % 2 == 0), want[i]);
    House.due("none is left", x.make(0, House.name("new4"), true), ROOM);
  }

  private static void makeBad() {
    House.sentence("2: BAD: no such directory");
    for (int over : new int[] {-1, 60, 59, 7, 6, 61}) {
      House.refused("make(" + over + ")", BAD, EdgesOfTree::some, x -> x.make(over, 'q', false));
    }
    for (int over : House.FAR) House.due("make(" + over + ")", some().make(over, 'q', true), BAD);
    House.sentence("2: BAD: no such NAME");
    for (long name : badNames()) {
      House.due("make of " + Long.toHexString(name), some().make(0, name, false), BAD);
      House.due("make of directory " + Long.toHexString(name), some().make(0, name, true), BAD);
    }
    House.refused("make of no NAME", BAD, EdgesOfTree::some, x -> x.make(0, 'A', true));
  }

  private static void makeTaken() {
    House.sentence("2: TAKEN");
    House.refused("a directory's by a file", TAKEN, EdgesOfTree::some, x -> x.make(0, 'a', false));
    House.refused("a directory's by a directory", TAKEN, EdgesOfTree::some, x -> x.make(3, 'd', true));
    House.refused("a file's by a directory", TAKEN, EdgesOfTree::some, x -> x.make(4, 'f', true));
    House.refused("a file's by a file", TAKEN, EdgesOfTree::some, x -> x.make(4, 'f', false));
  }

  private static void makeRoom() {
    House.sentence("2: ROOM: 60 nodes");
    Supplier<StubHouse> almost = () -> {
      StubHouse x = House.crowded();
      x.remove(58);
      return x;
    };
    House.due("with 59 there is room", almost.get().make(0, 'q', false), 58);
    House.refused("a file", ROOM, House::crowded, x -> x.make(0, 'q', false));
    House.refused("a directory", ROOM, House::crowded, x -> x.make(58, 'q', true));
    House.sentence("2: ROOM: DEPTH");
    House.due("a file at DEPTH 5", some().make(4, 'q', false), 7);
    House.due("a directory at DEPTH 5", some().make(4, 'q', true), 7);
    House.refused("a file at DEPTH 6", ROOM, EdgesOfTree::some, x -> x.make(5, 'q', false));
    House.refused("a directory at DEPTH 6", ROOM, EdgesOfTree::some, x -> x.make(5, 'q', true));
  }

  private static void makeInOrder() {
    House.sentence("2: LOST, BAD, TAKEN, ROOM are looked at in this order");
    House.refused("LOST ahead of BAD", LOST, House::lost, x -> x.make(-1, 0, false));
    House.refused("BAD, directory, ahead of ROOM", BAD, House::crowded, x -> x.make(59, 'q', false));
    House.refused("BAD, NAME, ahead of ROOM", BAD, House::crowded, x -> x.make(0, 0, false));
    House.refused("BAD, NAME, ahead of DEPTH", BAD, EdgesOfTree::some, x -> x.make(5, 'Q', false));
    House.refused("TAKEN ahead of ROOM", TAKEN, House::crowded, x -> x.make(0, House.name("n59"), false));
  }

  private static void find() {
    House.sentence("3: BAD: no such directory");
    for (int over : new int[] {-1, 60, 59, 7, 6, 61}) House.refused("find(" + over + ")", BAD, EdgesOfTree::some, x -> x.find(over, 'a'));
    for (int over : House.FAR) House.due("find(" + over + ")", some().find(over, 'a'), BAD);
    House.sentence("3: NONE");
    House.refused("in a directory without nodes", NONE, EdgesOfTree::some, x -> x.find(5, 'a'));
    House.refused("that of a node elsewhere", NONE, EdgesOfTree::some, x -> x.find(0, 'b'));
    House.refused("what no node can have", NONE, EdgesOfTree::some, x -> x.find(0, 0));
    House.due("with more behind it", some().find(0, House.name("aa")), NONE);
    House.due("in upper case", some().find(0, 'A'), NONE);
    StubHouse x = some();
    x.remove(6);
    House.due("one that is none any more", x.find(4, 'f'), NONE);
    House.sentence("3: LOST ahead of BAD");
    House.refused("find(-1)", LOST, House::lost, y -> y.find(-1, 'a'));
    House.due("find(0)", House.lost().find(0, 'a'), LOST);
  }

  private static void remove() {
    House.sentence("4: BAD: none such, the root");
    for (int n : new int[] {-1, 0, 7, 59, 60, 61}) House.refused("remove(" + n + ")", BAD, EdgesOfTree::some, x -> x.remove(n));
    for (int n : House.FAR) House.due("remove(" + n + ")", some().remove(n), BAD);
    House.due("the root of nothing else", new StubHouse().remove(0), BAD);
    StubHouse twice = some();
    House.due("twice", twice.remove(6) * 10 + twice.remove(6), BAD);
    House.sentence("4: STATE: a directory that has nodes");
    House.refused("that has a directory", STATE, EdgesOfTree::some, x -> x.remove(1));
    House.refused("that has a directory and a file", STATE, EdgesOfTree::some, x -> x.remove(4));
    StubHouse y = some();
    House.due("with the last node but one gone", y.remove(5) * 10 + y.remove(4), STATE);
    House.due("with the last one gone", y.remove(6) * 10 + y.remove(4), 0);
    House.sentence("4: LOST ahead of BAD");
    House.refused("remove(0)", LOST, House::lost, x -> x.remove(0));
  }

  private static void moveBad() {
    House.sentence("5: BAD: none such, the root");
    for (int n : new int[] {-1, 0, 7, 59, 60, 61}) House.refused("move(" + n + ")", BAD, EdgesOfTree::some, x -> x.move(n, 0, 'q'));
    for (int n : House.FAR) House.due("move(" + n + ")", some().move(n, 0, 'q'), BAD);
    House.sentence("5: BAD: no such directory");
    for (int over : new int[] {-1, 6, 7, 59, 60, 61}) House.refused("move to " + over, BAD, EdgesOfTree::some, x -> x.move(5, over, 'q'));
    for (int over : House.FAR) House.due("move to " + over, some().move(5, over, 'q'), BAD);
    House.due("a file into itself", some().move(6, 6, 'q'), BAD);
    House.sentence("5: BAD: no such NAME");
    for (long name : badNames()) House.due("move as " + Long.toHexString(name), some().move(6, 0, name), BAD);
    House.refused("move as no NAME", BAD, EdgesOfTree::some, x -> x.move(6, 0, 'A'));
  }

  private static void moveTaken() {
    House.sentence("5: TAKEN (by another node); also the same is a move");
    Supplier<StubHouse> two = () -> {
      StubHouse x = some();
      x.make(0, 'g', false);
      return x;
    };
    House.refused("a directory's", TAKEN, two, x -> x.move(6, 0, 'a'));
    House.refused("a file's", TAKEN, two, x -> x.move(1, 0, 'g'));
    House.refused("in the same directory", TAKEN, two, x -> x.move(7, 0, 'a'));
    StubHouse x = two.get();
    int bytes = x.told(10);
    House.due("the same OVER and NAME", x.move(7, 0, 'g') * 100 + x.told(10) - bytes, 16);
    House.due("it is there", x.find(0, 'g'), 7);
  }

  private static void moved() {
    House.sentence("5: a node gets another OVER and NAME (also the same)");
    StubHouse x = some();
    House.due("another NAME", x.move(6, 4, 'g') * 100000 + x.find(4, 'g') * 1000 + x.name(6), 6000 + 'g');
    House.due("not the one that it had", x.find(4, 'f'), NONE);
    House.due("another OVER", x.move(6, 0, 'g') * 100 + x.about(6, 1) * 10 + x.find(0, 'g'), 6);
    House.due("not the one that it had", x.find(4, 'g'), NONE);
    House.due("what is below goes along", x.move(3, 0, 'h') * 10 + x.about(4, 1) + x.about(5, 2), 6);
    House.due("the one that it had is to be had again", x.make(2, 'c', false), 7);
  }

  private static void lesserBelowGreater() {
    House.sentence("4, 5: nodes of any numbers, directories and files alike, are below others");
    StubHouse x = new StubHouse();
    x.make(0, 'a', true);
    x.make(0, 'b', true);
    x.move(1, 2, 'a');
    House.due("1 is in 2: STATE", x.remove(2), STATE);
    House.due("2 into 1: STATE", x.move(2, 1, 'q'), STATE);
    for (int i = 0; i < 4; i++) x.make(i == 0 ? 0 : 2 + i, 'm' + i, true);
    House.due("2 with a directory below it to DEPTH 5: ROOM", x.about(6, 2) * 100 + x.move(2, 6, 'q'), 400 + ROOM);
    House.due("to DEPTH 4", x.move(2, 5, 'q') * 10 + x.about(1, 2), 5);
    x.remove(1);
    x.make(2, 'f', false);
    House.due("with a file below it to DEPTH 5: ROOM", x.move(2, 6, 'q'), ROOM);
    x.remove(1);
    House.due("with none below it", x.move(2, 6, 'q') * 10 + x.about(2, 2), 5);
  }

  private static void moveState() {
    House.sentence("5: STATE: it would be in itself, or below");
    House.refused("in itself", STATE, EdgesOfTree::some, x -> x.move(3, 3, 'q'));
    House.refused("one below", STATE, EdgesOfTree::some, x -> x.move(3, 4, 'q'));
    House.refused("two below", STATE, EdgesOfTree::some, x -> x.move(3, 5, 'q'));
    House.refused("at the greatest DEPTH, in itself", STATE, EdgesOfTree::some, x -> x.move(5, 5, 'q'));
    StubHouse x = some();
    House.due("beside itself", x.move(5, 3, 'q') * 10 + x.about(5, 2), 4);
    House.due("where what was below it was", x.move(4, 2, 'd') * 10 + x.move(3, 4, 'c'), 0);
    House.due("OVERS", x.about(4, 1) * 10 + x.about(3, 1), 24);
  }

  private static void moveRoom() {
    House.sentence("5: ROOM: DEPTH of it");
    StubHouse x = some();
    x.make(0, 'g', false);
    House.due("a file to DEPTH 5", x.move(7, 4, 'g') * 10 + x.about(7, 2), 5);
    House.refused("a file to DEPTH 6", ROOM, EdgesOfTree::some, y -> y.move(6, 5, 'q'));
    House.sentence("5: ROOM: DEPTH of what is below it");
    // h, i, j (7 to 9) below one another, and what they are moved below: 0 to 5 deep.
    for (int height = 0; height < 3; height++) {
      for (int over = 0; over <= 5; over++) {
        int node = 9 - height;
        int to = over;
        boolean fits = over + 1 + height <= 5;
        Supplier<StubHouse> row = () -> {
          StubHouse y = House.deep();
          y.make(0, 'g', false);
          y.make(0, 'h', true);
          y.make(7, 'i', true);
          y.make(8, 'j', false);
          return y;
        };
        String call = "a node with " + height + " below it into DEPTH " + over;
        if (fits) {
          StubHouse y = row.get();
          House.due(call, y.move(node, to, 'q') * 100 + y.about(9, 2), over + 1 + height);
        } else {
          House.refused(call, ROOM, row, y -> y.move(node, to, 'q'));
        }
      }
    }
  }

  private static void moveInOrder() {
    House.sentence("5: LOST, BAD, TAKEN, STATE, ROOM are looked at in this order");
    House.refused("LOST ahead of BAD", LOST, House::lost, x -> x.move(0, -1, 0));
    House.refused("BAD, the root, ahead of STATE", BAD, EdgesOfTree::some, x -> x.move(0, 4, 'q'));
    House.refused("BAD, NAME, ahead of STATE", BAD, EdgesOfTree::some, x -> x.move(3, 4, 'Q'));
    House.refused("BAD, NAME, ahead of ROOM", BAD, EdgesOfTree::some, x -> x.move(6, 5, 'Q'));
    House.refused("BAD, directory, ahead of TAKEN", BAD, EdgesOfTree::some, x -> x.move(60, 0, 'a'));
    House.refused("TAKEN ahead of STATE", TAKEN, EdgesOfTree::some, x -> x.move(1, 4, 'f'));
    House.refused("TAKEN ahead of ROOM", TAKEN, () -> {
      StubHouse x = some();
      x.make(0, 'g', true);
      x.make(7, 'h', true);
      return x;
    }, x -> x.move(7, 4, 'f'));
    House.refused("STATE ahead of ROOM", STATE, EdgesOfTree::some, x -> x.move(1, 5, 'q'));
  }

  private static void about() {
    House.sentence("11: BAD: no such node");
    for (int n : new int[] {-1, 60, 61}) for (int k = 0; k < 11; k++) House.due("about(" + n + ", " + k + ")", some().about(n, k), BAD);
    for (int n : House.FAR) House.due("about(" + n + ", 0)", some().about(n, 0), BAD);
    House.sentence("11: BAD: no such what");
    for (int n : new int[] {0, 1, 6, 7}) for (int k : new int[] {-1, 11, 12}) House.due("about(" + n + ", " + k + ")", some().about(n, k), BAD);
    for (int k : House.FAR) House.due("about(6, " + k + ")", some().about(6, k), BAD);
    House.sentence("11: BAD: of one that is none all but 0");
    for (int n : new int[] {7, 59}) for (int k = 0; k < 11; k++) House.due("about(" + n + ", " + k + ")", some().about(n, k), k == 0 ? 0 : BAD);
    House.sentence("11: BAD: of a directory 3 and on");
    for (int n : new int[] {0, 5}) {
      House.due("about(" + n + ", 2)", some().about(n, 2), n);
      for (int k = 3; k < 11; k++) House.due("about(" + n + ", " + k + ")", some().about(n, k), BAD);
    }
    House.sentence("11: of a FILE all of 0 .. 10");
    long[] want = {2, 4, 5, 1, 0, 1, 0, 0, 0, 0, 0};
    for (int k = 0; k < 11; k++) House.due("about(6, " + k + ")", some().about(6, k), want[k]);
    House.sentence("11: OVER (NONE of the root)");
    House.due("about(0, 1)", some().about(0, 1), NONE);
    House.due("about(1, 1)", some().about(1, 1), 0);
    House.sentence("11: LOST ahead of BAD");
    House.due("about(0, 0)", House.lost().about(0, 0), LOST);
    House.refused("about(60, 11)", LOST, House::lost, x -> x.about(60, 11));
    House.sentence("11: nothing is changed by it");
    for (int k = -1; k < 12; k++) {
      int what = k;
      House.refused("about(6, " + k + ")", some().about(6, k), EdgesOfTree::some, x -> x.about(6, what));
    }
  }

  private static void howAFileIs() {
    House.sentence("11: how it is: 0 of SIZE 0, 1 in stores, 2 so, with its COPIES, 3 a STUB, 4 DAMAGED");
    StubHouse x = House.sinkingFile();
    House.due("in stores", x.about(1, 10), 1);
    x.cut(1, 1);
    House.due("of one byte", x.about(1, 10), 1);
    x.cut(1, 0);
    House.due("of none", x.about(1, 10), 0);
    StubHouse s = House.stub();
    House.due("a STUB", s.about(1, 10), 3);
    s.copies(2);
    House.due("a STUB that lacks a COPY", s.about(1, 10), 3);
    s.copies(1);
    s.read(1, 0);
    s.step(20);
    House.due("in stores with its COPY", s.about(1, 10), 2);
    s.copies(2);
    House.due("with one of two", s.about(1, 10), 1);
    StubHouse two = House.sinkingFile();
    two.copies(2);
    two.step(60);
    House.calm(two);
    two.read(1, 0);
    two.step(20);
    House.due("with two of two", two.about(1, 7) * 10 + two.about(1, 10), 22);
    two.copies(1);
    House.due("with more than are to be", two.about(1, 7) * 10 + two.about(1, 10), 22);
    House.due("DAMAGED", House.damaged().about(1, 10), 4);
  }

  private static void name() {
    House.sentence("12: 0: none such, the root, LOST");
    for (int n : new int[] {-1, 0, 7, 59, 60, 61}) House.refused("name(" + n + ")", 0, EdgesOfTree::some, x -> x.name(n));
    for (int n : House.FAR) House.due("name(" + n + ")", some().name(n), 0);
    House.due("LOST", House.lost().name(1), 0);
    StubHouse x = House.crowded();
    House.due("name(59)", x.name(59), House.name("n59"));
    x.remove(59);
    House.due("of one that is none any more", x.name(59), 0);
  }

  public static void main(String[] args) {
    newObject();
    sixtyNodes();
    rootIsDirectory();
    names();
    alikeNames();
    numbersOfFiles();
    versions();
    leastNumbers();
    makeBad();
    makeTaken();
    makeRoom();
    makeInOrder();
    find();
    remove();
    moveBad();
    moveTaken();
    moved();
    lesserBelowGreater();
    moveState();
    moveRoom();
    moveInOrder();
    about();
    howAFileIs();
    name();
    House.end();
  }
}
