import java.util.function.Supplier;

/** Edges of term 2 and of promises 6 to 10, 13: each sentence that names one, in the document's order. */
public final class EdgesOfContents {
  private static final int BAD = -1, NONE = -2, ROOM = -3, RECALLING = -4, DAMAGED = -5, LOST = -8;

  /** A file (1) of 100 bytes, a directory (2), a file (3) of SIZE 0, five bytes at hand. */
  private static StubHouse some() {
    StubHouse x = new StubHouse();
    House.file(x, "a", 100, 0);
    x.make(0, 'd', true);
    x.make(0, 'e', false);
    x.fill(5, 50);
    return x;
  }

  /** All BLOCKS are of files but so many of FAST and SLOW; 8 is a file of SIZE 0; so many bytes are at hand. */
  private static StubHouse withFree(int fast, int slow, int atHand) {
    StubHouse x = House.full();
    x.make(0, 'e', false);
    if (fast > 0) x.cut(1, 1024 - 32 * fast);
    if (slow > 0) x.cut(7, 512 - 32 * slow);
    x.sync();
    if (atHand > 0) x.fill(atHand, 1);
    return x;
  }

  private static StubHouse fullWithStub() {
    StubHouse x = House.stub();
    House.fillUp(x, 2, 208);
    x.fill(1, 1);
    return x;
  }

  private static StubHouse fullWithDamaged() {
    StubHouse x = House.damaged();
    House.fillUp(x, 2, 208);
    x.fill(1, 1);
    return x;
  }

  /** A STUB (1) of 1,000 bytes. */
  private static StubHouse longStub(int atHand) {
    StubHouse x = House.sinking();
    House.file(x, "a", 1000, 0);
    x.step(100);
    House.calm(x);
    x.sync();
    x.fill(atHand, 1);
    return x;
  }

  private static StubHouse longDamaged(int atHand) {
    StubHouse x = longStub(atHand);
    x.spoil(0, 8 + 29, 1);
    x.read(1, 0);
    x.step(40);
    return x;
  }

  private static void stores() {
    House.sentence("T2: FAST has 48 BLOCKS, SLOW 160");
    StubHouse x = House.full();
    House.due("the last one of FAST", x.block(2, 15), 47);
    House.due("the first one of SLOW", x.block(2, 16), 1000);
    House.due("the last one of SLOW", x.block(7, 15), 1159);
    House.due("of files", x.told(1) * 1000 + x.told(2), 48160);
    House.due("FREE", x.told(4) * 1000 + x.told(5), 0);
    x.fill(1, 0);
    House.due("no one more", x.write(7, 512), ROOM);
  }

  private static void wanted() {
    House.sentence("T2: a BLOCK that is wanted is the least FREE one of FAST, else the least FREE one of SLOW");
    StubHouse x = House.full();
    x.cut(1, 960);
    x.remove(3);
    x.sync();
    House.file(x, "q", 128, 0);
    int[] want = {30, 31, 1016, 1017};
    for (int i = 0; i < 4; i++) House.due("BLOCK " + i, x.block(3, i), want[i]);
  }

  private static void held() {
    House.sentence("T2: HELD: it was a file's, and is FREE behind the next SYNC");
    StubHouse x = House.full();
    x.cut(1, 992);
    x.remove(7);
    House.due("HELD", x.told(3) * 100 + x.told(4) + x.told(5), 1700);
    x.fill(1, 0);
    House.due("none is FREE", x.write(1, 0), ROOM);
    House.due("SYNC", x.sync(), 2);
    House.due("FREE", x.told(3) * 10000 + x.told(4) * 100 + x.told(5), 116);
  }

  private static void writtenElsewhere() {
    House.sentence("T2: what is written is in BLOCKS that are FREE before; those that it had for these parts are HELD then");
    StubHouse x = new StubHouse();
    House.file(x, "a", 96, 0);
    x.fill(2, 200);
    x.write(1, 31);
    House.due("two parts", x.block(1, 0) * 10000 + x.block(1, 1) * 100 + x.block(1, 2), 30402);
    House.due("HELD", x.told(3), 2);
    House.due("what is beside them stays", x.read(1, 30) * 1000000 + x.read(1, 31) * 1000 + x.read(1, 32), 30200201);
    House.due("behind them, too", x.read(1, 33) * 100 + x.read(1, 95), 3395);
    x.fill(1, 7);
    x.write(1, 96);
    House.due("behind the last whole one nothing is HELD", x.told(3) * 10 + x.block(1, 3), 25);
    x.fill(1, 8);
    x.write(1, 97);
    House.due("behind a part it is", x.told(3) * 10 + x.block(1, 3), 36);
  }

  private static void cutParts() {
    House.sentence("T2: cut() to less: what stays of the last BLOCK is written, if that is no whole one");
    // SIZE 96 in BLOCKS 0, 1, 2; to: SIZE, the last BLOCK then, HELD.
    int[][] rows = {{95, 3, 1}, {65, 3, 1}, {64, 1, 1}, {63, 3, 2}, {33, 3, 2}, {32, 0, 2}, {31, 3, 3}, {1, 3, 3}, {0, BAD, 3}, {96, 2, 0}};
    for (int[] r : rows) {
      StubHouse x = new StubHouse();
      House.file(x, "a", 96, 0);
      House.due("cut to " + r[0], x.cut(1, r[0]), r[0]);
      House.due("the last BLOCK of " + r[0], x.block(1, (r[0] + 31) / 32 - 1), r[1]);
      House.due("HELD of " + r[0], x.told(3), r[2]);
      House.due("the last byte of " + r[0], x.read(1, r[0] - 1), r[0] == 0 ? BAD : r[0] - 1);
      House.due("the next one of " + r[0], x.read(1, r[0]), BAD);
    }
  }

  private static void cutToTheSame() {
    House.sentence("T2: cut() to the same SIZE is none to less: nothing is written");
    for (int size : new int[] {1, 31, 33, 40, 1023}) {
      StubHouse x = new StubHouse();
      House.file(x, "a", size, 5);
      int last = (size - 1) / 32;
      House.due("cut to " + size, x.cut(1, size), size);
      House.due("the last BLOCK, HELD", x.block(1, last) * 10 + x.told(3), last * 10);
      House.due("the last byte", x.read(1, size - 1), (size + 4) & 255);
    }
  }

  private static void neighbours() {
    House.sentence("T2: what is written to BLOCKS leaves those beside them as they are");
    StubHouse x = new StubHouse();
    for (int f = 1; f <= 8; f++) House.file(x, "f" + f, 32, 16 * f);
    for (int f = 1; f <= 7; f += 2) x.remove(f);
    x.sync();
    int n = House.file(x, "q", 129, 100);
    int[] want = {0, 2, 4, 6, 8};
    for (int i = 0; i < 5; i++) House.due("BLOCK " + i, x.block(n, i), want[i]);
    for (int f = 2; f <= 8; f += 2) for (int p = 0; p < 32; p++) House.due("byte " + p + " of " + f, x.read(f, p), (16 * f + p) & 255);
    for (int p = 0; p < 129; p++) House.due("byte " + p, x.read(n, p), (100 + p) & 255);
    House.sentence("T2: what stays of a BLOCK comes along, whichever BLOCK it is");
    StubHouse y = new StubHouse();
    House.file(y, "a", 32, 0);
    House.file(y, "b", 32, 40);
    y.remove(1);
    y.sync();
    House.write(y, 2, 31, 1, 7);
    House.due("into BLOCK 0 of FAST", y.block(2, 0), 0);
    for (int p = 0; p < 32; p++) House.due("byte " + p, y.read(2, p), p < 31 ? 40 + p : 7);
    y.sync();
    y.cut(2, 5);
    House.due("into BLOCK 1 of FAST", y.block(2, 0), 1);
    y.sync();
    y.cut(2, 4);
    House.due("into BLOCK 0 of FAST", y.block(2, 0), 0);
    for (int p = 0; p < 5; p++) House.due("byte " + p, y.read(2, p), p < 4 ? 40 + p : BAD);
  }

  private static void thereAndBack() {
    House.sentence("T5: RECALLED: it has the bytes that it had");
    for (int size : new int[] {1, 31, 32, 33, 63, 64, 65, 1023, 1024}) {
      StubHouse x = House.sinking();
      House.file(x, "a", size, 77);
      x.step(100);
      House.calm(x);
      House.due("SIZE " + size + ": a STUB", x.about(1, 10) * 10000 + x.about(1, 4), 30000 + size);
      x.read(1, 0);
      x.step(60);
      for (int p = 0; p < size; p++) House.due("SIZE " + size + ", byte " + p, x.read(1, p), (77 + p) & 255);
      House.due("none behind them", x.read(1, size), BAD);
    }
    House.sentence("T5: a SEGMENT has the bytes of BLOCKS of both stores");
    StubHouse y = new StubHouse();
    House.file(y, "z", 32, 0);
    House.file(y, "a", 32, 50);
    y.remove(1);
    y.sync();
    House.write(y, 2, 32, 32, 150);
    House.due("BLOCKS 1 and 0 of FAST", y.block(2, 0) * 10 + y.block(2, 1), 10);
    y.marks(0, 1, 1);
    y.marks(1, 0, 0);
    y.step(1);
    House.due("one of both", y.block(2, 0) * 10 + y.block(2, 1), 10000);
    y.step(40);
    House.due("a STUB", y.about(2, 10), 3);
    House.calm(y);
    y.read(2, 0);
    y.step(40);
    for (int p = 0; p < 64; p++) House.due("byte " + p, y.read(2, p), p < 32 ? 50 + p : 150 + p - 32);
  }

  private static void removedReleasedMoved() {
    House.sentence("T2: HELD when a file is removed, RELEASED, or a BLOCK is moved");
    StubHouse x = new StubHouse();
    House.file(x, "a", 1024, 0);
    x.remove(1);
    House.due("removed", x.told(3) * 100 + x.told(1), 3200);
    StubHouse y = House.sinkingFile();
    y.step(1);
    House.due("moved", y.told(3) * 100 + y.told(1) * 10 + y.told(2), 111);
    y.step(6);
    y.sync();
    House.due("none", y.told(3), 0);
    y.step(1);
    House.due("RELEASED", y.told(3) * 100 + y.told(1) * 10 + y.told(2), 200);
    StubHouse z = House.sinkingFile();
    z.step(8);
    z.sync();
    House.due("a STUB has none", z.remove(1) * 10 + z.told(3), 0);
  }

  private static void withoutCopies() {
    House.sentence("T2: a write() or cut() leaves it without any COPIES");
    Supplier<StubHouse> there = () -> {
      StubHouse x = House.stub();
      x.read(1, 0);
      x.step(20);
      return x;
    };
    House.due("one COPY", there.get().about(1, 7), 1);
    StubHouse x = there.get();
    x.fill(1, 1);
    House.due("write", x.write(1, 0) * 10 + x.about(1, 7), 400);
    StubHouse y = there.get();
    House.due("cut", y.cut(1, 39) * 10 + y.about(1, 7), 390);
    StubHouse z = there.get();
    House.due("cut to the same SIZE", z.cut(1, 40) * 10 + z.about(1, 7), 400);
    StubHouse v = House.stub();
    House.due("cut of a STUB to 0", v.cut(1, 0) * 10 + v.about(1, 7), 0);
    StubHouse w = there.get();
    w.move(1, 0, 'q');
    w.cut(1, 41);
    w.write(1, 0);
    House.due("others leave it", w.about(1, 7), 1);
  }

  private static void twoCopies() {
    House.sentence("T2: COPIES: up to two places on unlike tapes, in the order in which they were noted");
    StubHouse x = House.sinkingFile();
    x.copies(2);
    x.step(200);
    House.due("two", x.about(1, 7) * 100 + x.copy(1, 0, 0) * 10 + x.copy(1, 1, 0), 201);
    House.due("no third one is written", x.tape(0, 2) * 100 + x.tape(1, 2) * 10 + x.tape(2, 2), 110);
  }

  private static void sizes() {
    House.sentence("T1: a SIZE of 0 .. 1,024 bytes in BLOCKS of 32");
    int[] sizes = {0, 1, 31, 32, 33, 63, 64, 65, 255, 256, 257, 1023, 1024};
    int[] blocks = {0, 1, 1, 1, 2, 2, 2, 3, 8, 8, 9, 32, 32};
    for (int i = 0; i < sizes.length; i++) {
      StubHouse x = new StubHouse();
      House.file(x, "a", sizes[i], 3);
      House.due("SIZE", x.about(1, 4), sizes[i]);
      House.due("BLOCKS of " + sizes[i], x.about(1, 8) * 100 + x.told(1), blocks[i] * 101);
      House.due("the last BLOCK of " + sizes[i], x.block(1, blocks[i] - 1), blocks[i] == 0 ? BAD : blocks[i] - 1);
      House.due("none behind it of " + sizes[i], x.block(1, blocks[i]), BAD);
      House.due("the last byte of " + sizes[i], x.read(1, sizes[i] - 1), sizes[i] == 0 ? BAD : (sizes[i] + 2) & 255);
      House.due("none behind it of " + sizes[i], x.read(1, sizes[i]), BAD);
    }
  }

  private static void touch() {
    House.sentence("T1: a TOUCH: the TIME when it was made, written, cut, read (but when that recalls) or RECALLED last");
    StubHouse x = new StubHouse();
    x.step(3);
    x.make(0, 'a', false);
    House.due("made", x.about(1, 6), 3);
    x.step(1);
    House.write(x, 1, 0, 40, 0);
    House.due("written", x.about(1, 6), 4);
    x.step(1);
    x.cut(1, 40);
    House.due("cut", x.about(1, 6), 5);
    x.step(1);
    x.read(1, 39);
    House.due("read", x.about(1, 6), 6);
    x.step(1);
    x.read(1, 40);
    x.write(1, 0);
    x.cut(1, 41);
    x.move(1, 0, 'b');
    x.about(1, 6);
    x.sync();
    House.due("refused ones and others leave it", x.about(1, 6), 6);
    StubHouse s = House.sinkingFile();
    s.step(8);
    House.due("moved, noted, RELEASED ones leave it", s.about(1, 10) * 10 + s.about(1, 6), 30);
    s.fill(1, 0);
    s.read(1, 0);
    s.write(1, 0);
    s.cut(1, 1);
    House.due("when it recalls", s.about(1, 6), 0);
    s.step(8);
    House.due("RECALLED", s.about(1, 6), 16);
    StubHouse d = House.damaged();
    int was = d.about(1, 6);
    d.step(5);
    d.read(1, 0);
    d.cut(1, 1);
    House.due("when it is DAMAGED", d.about(1, 6), was);
  }

  private static void feed() {
    House.sentence("6: BAD: n is not 1 .. 8");
    for (int n : new int[] {0, -1, 9, 10, -8}) House.refused("feed(" + n + ")", BAD, EdgesOfContents::some, x -> x.feed(n, 1));
    for (int n : House.FAR) House.due("feed(" + n + ")", some().feed(n, 1), BAD);
    House.due("feed(1)", some().feed(1, 1), 6);
    House.due("feed(8)", some().feed(8, 1), 13);
    House.sentence("6: ROOM: above 256");
    for (int n = 1; n <= 8; n++) {
      int count = n;
      House.due("to 256 by " + n, withHand(256 - n).feed(n, 1), 256);
      House.refused("to 257 by " + n, ROOM, () -> withHand(257 - count), x -> x.feed(count, 1));
    }
    House.sentence("6: BAD is looked at ahead of ROOM; feed() is never LOST");
    House.refused("feed(9)", BAD, () -> withHand(256), x -> x.feed(9, 1));
    House.due("LOST", House.lost().feed(8, 1), 8);
    House.sentence("6: the n lowest bytes of a long, the lowest first");
    StubHouse x = new StubHouse();
    x.make(0, 'a', false);
    x.feed(8, 0xfedcba9876543210L);
    x.feed(1, -256L);
    x.feed(2, 0x7fffffffffff80ffL);
    x.write(1, 0);
    int[] want = {0x10, 0x32, 0x54, 0x76, 0x98, 0xba, 0xdc, 0xfe, 0, 0xff, 0x80};
    for (int i = 0; i < want.length; i++) House.due("byte " + i, x.read(1, i), want[i]);
  }

  private static StubHouse withHand(int count) {
    StubHouse x = new StubHouse();
    if (count > 0) x.fill(count, 3);
    return x;
  }

  private static void fill() {
    House.sentence("7: BAD: n is not 1 .. 256");
    for (int n : new int[] {0, -1, 257, 258, -256}) House.refused("fill(" + n + ")", BAD, EdgesOfContents::some, x -> x.fill(n, 1));
    for (int n : House.FAR) House.due("fill(" + n + ")", some().fill(n, 1), BAD);
    House.due("fill(1)", withHand(0).fill(1, 1), 1);
    House.due("fill(256)", withHand(0).fill(256, 1), 256);
    House.sentence("7: ROOM: above 256");
    for (int n : new int[] {1, 2, 128, 255}) {
      House.due("to 256 by " + n, withHand(256 - n).fill(n, 1), 256);
      House.refused("to 257 by " + n, ROOM, () -> withHand(257 - n), x -> x.fill(n, 1));
    }
    House.refused("to 257 by 256", ROOM, () -> withHand(1), x -> x.fill(256, 1));
    House.refused("to 512", ROOM, () -> withHand(256), x -> x.fill(256, 1));
    House.sentence("7: BAD is looked at ahead of ROOM; fill() is never LOST");
    House.refused("fill(257)", BAD, () -> withHand(256), x -> x.fill(257, 1));
    House.due("LOST", House.lost().fill(256, 1), 256);
    House.sentence("7: v, v + 1 and on (of each the lowest 8 bits)");
    int[] starts = {0, 255, 256, -1, -256, 12345678, Integer.MAX_VALUE, Integer.MIN_VALUE};
    for (int v : starts) {
      StubHouse x = new StubHouse();
      x.make(0, 'a', false);
      x.fill(256, v);
      x.write(1, 0);
      for (int i = 0; i < 256; i++) House.due("byte " + i + " from " + v, x.read(1, i), (v + i) & 255);
    }
  }

  private static void behindOthers() {
    House.sentence("6, 7: they come to hand behind others; what is at hand is not LOST");
    StubHouse x = new StubHouse();
    x.feed(2, 0x0201);
    x.fill(2, 3);
    x.lose();
    x.feed(1, 5);
    x.rebuild();
    x.crash(0);
    House.due("how many", x.fill(1, 6), 6);
    x.make(0, 'a', false);
    x.write(1, 0);
    for (int i = 0; i < 6; i++) House.due("byte " + i, x.read(1, i), i + 1);
  }

  private static void writeBad() {
    House.sentence("8: BAD: no FILE");
    for (int f : new int[] {-1, 0, 2, 4, 59, 60}) House.refused("write(" + f + ", 0)", BAD, EdgesOfContents::some, x -> x.write(f, 0));
    for (int f : House.FAR) House.due("write(" + f + ", 0)", some().write(f, 0), BAD);
    House.sentence("8: BAD: a place not 0 .. SIZE");
    for (int p : new int[] {-1, 101, 102, -100}) House.refused("write(1, " + p + ")", BAD, EdgesOfContents::some, x -> x.write(1, p));
    for (int p : House.FAR) House.due("write(1, " + p + ")", some().write(1, p), BAD);
    House.refused("of SIZE 0", BAD, EdgesOfContents::some, x -> x.write(3, 1));
    House.due("at 0", some().write(1, 0), 100);
    House.due("at SIZE", some().write(1, 100), 105);
    House.due("at 0 of SIZE 0", some().write(3, 0), 5);
    House.sentence("8: BAD: nothing at hand");
    Supplier<StubHouse> empty = () -> {
      StubHouse x = some();
      x.write(3, 0);
      return x;
    };
    House.refused("behind another write", BAD, empty, x -> x.write(1, 0));
    House.refused("at SIZE", BAD, empty, x -> x.write(1, 100));
  }

  private static void writeAbove() {
    House.sentence("8: ROOM: it would be above 1,024");
    for (int n : new int[] {1, 2, 128, 256}) {
      Supplier<StubHouse> almost = () -> {
        StubHouse x = new StubHouse();
        House.file(x, "a", 1025 - n, 0);
        x.fill(n, 9);
        return x;
      };
      House.due("to 1,024 by " + n, almost.get().write(1, 1024 - n), 1024);
      House.refused("to 1,025 by " + n, ROOM, almost, x -> x.write(1, 1025 - n));
    }
    Supplier<StubHouse> whole = () -> {
      StubHouse x = new StubHouse();
      House.file(x, "a", 1024, 0);
      x.fill(256, 9);
      return x;
    };
    House.refused("to 1,280", ROOM, whole, x -> x.write(1, 1024));
    House.refused("to 1,025", ROOM, whole, x -> x.write(1, 769));
    House.due("to 1,024", whole.get().write(1, 768), 1024);
  }

  private static void writeStub() {
    House.sentence("8: RECALLING: it is a STUB (as read()): a RECALL of it waits, what is at hand stays");
    Supplier<StubHouse> stub = () -> {
      StubHouse x = House.stub();
      x.fill(3, 1);
      return x;
    };
    for (int p : new int[] {0, 39, 40}) House.refusedBut("write(1, " + p + ")", RECALLING, stub, x -> x.write(1, p), x -> x.read(1, 0));
    StubHouse s = stub.get();
    s.write(1, 0);
    House.due("one waits, three are at hand", s.told(6) * 10 + s.told(15), 13);
    House.sentence("8: DAMAGED: a STUB without COPIES: no RECALL waits");
    Supplier<StubHouse> damaged = () -> {
      StubHouse x = House.damaged();
      x.fill(3, 1);
      return x;
    };
    for (int p : new int[] {0, 40}) House.refused("write(1, " + p + ")", DAMAGED, damaged, x -> x.write(1, p));
  }

  private static void writeWithoutBlocks() {
    House.sentence("8: ROOM: not so many BLOCKS are FREE in both stores");
    // file, place, bytes, the BLOCKS that they touch
    int[][] rows = {{8, 0, 1, 1}, {8, 0, 32, 1}, {8, 0, 33, 2}, {8, 0, 64, 2}, {8, 0, 65, 3}, {8, 0, 256, 8}, {2, 0, 1, 1}, {2, 31, 1, 1}, {2, 31, 2, 2},
        {2, 1, 32, 2}, {2, 32, 32, 1}, {2, 0, 256, 8}, {2, 1, 256, 9}, {2, 1023, 1, 1}, {2, 768, 256, 8}, {2, 767, 256, 9}};
    for (int[] r : rows) {
      for (int fast = 0; fast <= r[3]; fast++) {
        StubHouse x = withFree(fast, r[3] - fast, r[2]);
        House.due("write(" + r[0] + ", " + r[1] + ") of " + r[2] + " with all BLOCKS", x.write(r[0], r[1]), r[0] == 8 ? r[2] : 1024);
        House.due("none is FREE then", x.told(4) + x.told(5), 0);
      }
      for (int fast : new int[] {0, r[3] - 1}) {
        Supplier<StubHouse> less = () -> withFree(fast, r[3] - 1 - fast, r[2]);
        House.refused("write(" + r[0] + ", " + r[1] + ") of " + r[2] + " with one less", ROOM, less, x -> x.write(r[0], r[1]));
      }
    }
    House.sentence("8: ROOM: HELD ones are not FREE");
    House.refused("write with HELD ones", ROOM, () -> {
      StubHouse x = withFree(0, 0, 1);
      x.remove(6);
      return x;
    }, x -> x.write(1, 0));
  }

  private static void writeInOrder() {
    House.sentence("8: LOST, BAD, ROOM of SIZE, RECALLING or DAMAGED, ROOM of BLOCKS are looked at in this order");
    House.refused("LOST ahead of BAD", LOST, House::lost, x -> x.write(-1, -1));
    House.due("LOST with bytes at hand", lostWithHand().write(1, 0), LOST);
    House.refused("BAD, place, ahead of ROOM", BAD, () -> longStub(256), x -> x.write(1, 1001));
    House.refused("BAD, nothing at hand, ahead of RECALLING", BAD, House::stub, x -> x.write(1, 0));
    House.refused("BAD, place, ahead of RECALLING", BAD, () -> longStub(1), x -> x.write(1, 1001));
    House.refused("ROOM of SIZE ahead of RECALLING", ROOM, () -> longStub(25), x -> x.write(1, 1000));
    House.refusedBut("not above: RECALLING", RECALLING, () -> longStub(24), x -> x.write(1, 1000), x -> x.read(1, 0));
    House.refused("ROOM of SIZE ahead of DAMAGED", ROOM, () -> longDamaged(25), x -> x.write(1, 1000));
    House.refused("not above: DAMAGED", DAMAGED, () -> longDamaged(24), x -> x.write(1, 1000));
    House.refusedBut("RECALLING ahead of ROOM of BLOCKS", RECALLING, EdgesOfContents::fullWithStub, x -> x.write(1, 0), x -> x.read(1, 0));
    House.refused("DAMAGED ahead of ROOM of BLOCKS", DAMAGED, EdgesOfContents::fullWithDamaged, x -> x.write(1, 0));
  }

  private static StubHouse lostWithHand() {
    StubHouse x = House.lost();
    x.fill(4, 0);
    return x;
  }

  private static void cut() {
    House.sentence("9: BAD: no FILE");
    for (int f : new int[] {-1, 0, 2, 4, 59, 60}) House.refused("cut(" + f + ", 0)", BAD, EdgesOfContents::some, x -> x.cut(f, 0));
    for (int f : House.FAR) House.due("cut(" + f + ", 0)", some().cut(f, 0), BAD);
    House.sentence("9: BAD: above its SIZE, below 0");
    for (int s : new int[] {-1, 101, 128, 1024, 1025}) House.refused("cut(1, " + s + ")", BAD, EdgesOfContents::some, x -> x.cut(1, s));
    for (int s : House.FAR) House.due("cut(1, " + s + ")", some().cut(1, s), BAD);
    House.refused("above SIZE 0", BAD, EdgesOfContents::some, x -> x.cut(3, 1));
    House.due("to its SIZE", some().cut(1, 100), 100);
    House.due("to 0", some().cut(1, 0), 0);
    House.due("SIZE 0 to 0", some().cut(3, 0), 0);
    House.sentence("9: RECALLING (not when it is cut to 0)");
    for (int s : new int[] {1, 32, 39, 40}) House.refusedBut("cut(1, " + s + ")", RECALLING, House::stub, x -> x.cut(1, s), x -> x.read(1, 0));
    StubHouse x = House.stub();
    x.read(1, 0);
    House.due("to 0", x.cut(1, 0), 0);
    House.due("it is no STUB, has no COPIES, no RECALL waits", x.about(1, 10) * 100 + x.about(1, 7) * 10 + x.told(6), 0);
    House.sentence("9: DAMAGED (not when it is cut to 0)");
    for (int s : new int[] {1, 32, 39, 40}) House.refused("cut(1, " + s + ")", DAMAGED, House::damaged, y -> y.cut(1, s));
    StubHouse y = House.damaged();
    House.due("to 0", y.cut(1, 0) * 10 + y.about(1, 10), 0);
  }

  private static void cutWithoutBlocks() {
    House.sentence("9: ROOM: no BLOCK is FREE, where one is wanted");
    for (int s : new int[] {1, 31, 33, 1023, 993}) {
      House.refused("cut(1, " + s + ") of none FREE", ROOM, House::full, x -> x.cut(1, s));
      House.due("with one of FAST", withFree(1, 0, 0).cut(2, s), s);
      House.due("with one of SLOW", withFree(0, 1, 0).cut(2, s), s);
      House.due("with one of each", withFree(1, 1, 0).cut(2, s), s);
    }
    for (int s : new int[] {0, 32, 64, 992, 1024}) House.due("cut(1, " + s + ") wants none", House.full().cut(1, s), s);
    House.refused("HELD ones are not FREE", ROOM, () -> {
      StubHouse x = House.full();
      x.remove(6);
      return x;
    }, x -> x.cut(1, 1));
    StubHouse x = withFree(1, 0, 0);
    x.cut(2, 1000);
    x.sync();
    House.file(x, "q", 32, 0);
    House.due("to the same SIZE of a part none is wanted", x.told(4) + x.told(5) + x.cut(2, 1000), 1000);
  }

  private static void cutInOrder() {
    House.sentence("9: LOST, BAD, RECALLING or DAMAGED, ROOM are looked at in this order");
    House.refused("LOST ahead of BAD", LOST, House::lost, x -> x.cut(-1, -1));
    House.due("LOST", House.lost().cut(1, 0), LOST);
    House.refused("BAD ahead of RECALLING", BAD, House::stub, x -> x.cut(1, 41));
    House.refused("BAD below 0 ahead of RECALLING", BAD, House::stub, x -> x.cut(1, -1));
    House.refused("BAD ahead of DAMAGED", BAD, House::damaged, x -> x.cut(1, 41));
    House.refused("BAD ahead of ROOM", BAD, House::full, x -> x.cut(1, 1025));
    House.refusedBut("RECALLING ahead of ROOM", RECALLING, EdgesOfContents::fullWithStub, x -> x.cut(1, 5), x -> x.read(1, 0));
    House.refused("DAMAGED ahead of ROOM", DAMAGED, EdgesOfContents::fullWithDamaged, x -> x.cut(1, 5));
    House.due("a STUB to 0 with none FREE", fullWithStub().cut(1, 0), 0);
  }

  private static void read() {
    House.sentence("10: BAD: no FILE");
    for (int f : new int[] {-1, 0, 2, 4, 59, 60}) House.refused("read(" + f + ", 0)", BAD, EdgesOfContents::some, x -> x.read(f, 0));
    for (int f : House.FAR) House.due("read(" + f + ", 0)", some().read(f, 0), BAD);
    House.sentence("10: BAD: no such place");
    for (int p : new int[] {-1, 100, 101, 127, 128}) House.refused("read(1, " + p + ")", BAD, EdgesOfContents::some, x -> x.read(1, p));
    for (int p : House.FAR) House.due("read(1, " + p + ")", some().read(1, p), BAD);
    House.refused("of SIZE 0", BAD, EdgesOfContents::some, x -> x.read(3, 0));
    House.due("the first one", some().read(1, 0), 0);
    House.due("the last one", some().read(1, 99), 99);
    House.sentence("10: DAMAGED: it is a STUB without COPIES");
    for (int p : new int[] {0, 39}) House.refused("read(1, " + p + ")", DAMAGED, House::damaged, x -> x.read(1, p));
    House.sentence("10: LOST, BAD, DAMAGED or RECALLING are looked at in this order");
    House.refused("LOST ahead of BAD", LOST, House::lost, x -> x.read(-1, -1));
    House.due("LOST", House.lost().read(1, 0), LOST);
    for (int p : new int[] {-1, 40}) {
      House.refused("BAD ahead of RECALLING", BAD, House::stub, x -> x.read(1, p));
      House.refused("BAD ahead of DAMAGED", BAD, House::damaged, x -> x.read(1, p));
    }
  }

  private static void recalls() {
    House.sentence("10: RECALLING: a STUB else: a RECALL of it waits, behind others, if none does");
    StubHouse x = House.stub();
    House.due("read(1, 0)", x.read(1, 0), RECALLING);
    House.due("read(1, 39)", x.read(1, 39), RECALLING);
    x.fill(1, 1);
    House.due("write", x.write(1, 0), RECALLING);
    House.due("cut", x.cut(1, 1), RECALLING);
    House.due("one waits", x.told(6), 1);
    House.sentence("10: it waits no more when the file is removed");
    House.due("remove", x.remove(1) * 10 + x.told(6), 0);
    House.sentence("10: it waits no more when the file is a STUB no more");
    StubHouse y = House.stub();
    y.read(1, 0);
    y.step(7);
    House.due("being read", y.drive(1, 2) * 10 + y.told(6), 41);
    y.step(1);
    House.due("RECALLED", y.about(1, 10) * 10 + y.told(6), 20);
    StubHouse z = House.stub();
    z.read(1, 0);
    House.due("cut to 0", z.cut(1, 0) * 10 + z.told(6), 0);
    House.sentence("10: it waits no more when the file is without COPIES");
    StubHouse d = House.stub();
    d.spoil(0, 8, 1);
    d.read(1, 0);
    d.step(7);
    House.due("being read", d.drive(1, 2) * 10 + d.told(6), 41);
    d.step(1);
    House.due("DAMAGED", d.about(1, 10) * 10 + d.told(6), 40);
  }

  private static void block() {
    House.sentence("13: BAD: no FILE");
    for (int f : new int[] {-1, 0, 2, 4, 59, 60}) House.refused("block(" + f + ", 0)", BAD, EdgesOfContents::some, x -> x.block(f, 0));
    for (int f : House.FAR) House.due("block(" + f + ", 0)", some().block(f, 0), BAD);
    House.sentence("13: BAD: no such BLOCK");
    for (int i : new int[] {-1, 4, 5, 31, 32}) House.refused("block(1, " + i + ")", BAD, EdgesOfContents::some, x -> x.block(1, i));
    for (int i : House.FAR) House.due("block(1, " + i + ")", some().block(1, i), BAD);
    House.due("of SIZE 0", some().block(3, 0), BAD);
    House.due("the last one", some().block(1, 3), 3);
    House.sentence("13: NONE of a STUB; BAD is looked at first");
    for (int i = 0; i < 2; i++) {
      int k = i;
      House.refused("block(1, " + i + ")", NONE, House::stub, x -> x.block(1, k));
    }
    House.due("DAMAGED", House.damaged().block(1, 1), NONE);
    for (int i : new int[] {-1, 2, 32}) House.due("block(1, " + i + ") of a STUB", House.stub().block(1, i), BAD);
    House.sentence("13: LOST ahead of BAD");
    House.refused("block(-1, -1)", LOST, House::lost, x -> x.block(-1, -1));
    House.due("block(1, 0)", House.lost().block(1, 0), LOST);
  }

  public static void main(String[] args) {
    stores();
    wanted();
    held();
    writtenElsewhere();
    cutParts();
    cutToTheSame();
    neighbours();
    thereAndBack();
    removedReleasedMoved();
    withoutCopies();
    twoCopies();
    sizes();
    touch();
    feed();
    fill();
    behindOthers();
    writeBad();
    writeAbove();
    writeStub();
    writeWithoutBlocks();
    writeInOrder();
    cut();
    cutWithoutBlocks();
    cutInOrder();
    read();
    recalls();
    block();
    House.end();
  }
}
