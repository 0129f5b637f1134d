import java.util.function.Supplier;

/** Edges of term 3, of LIVE, and of promises 25 to 29: each sentence that names one, in the document's order. */
public final class EdgesOfTapes {
  private static final int BAD = -1, NONE = -2, STATE = -6;
  private static final int MOST = 16777215;

  /** Files 1, 2, .. of these sizes, STUBS one after the other; the drives are empty, nothing sinks any more, all is KEPT. */
  private static StubHouse stubs(int... sizes) {
    StubHouse x = House.sinking();
    for (int i = 0; i < sizes.length; i++) {
      House.file(x, "f" + (char) ('a' + i), sizes[i], 10 * i);
      x.step(100);
      x.sync();
    }
    x.crash(0);
    House.calm(x);
    return x;
  }

  private static StubHouse some() {
    StubHouse x = stubs(40, 50);
    x.remove(2);
    x.sync();
    x.step(20);
    return x;
  }

  private static void sixThousand() {
    House.sentence("T3: TAPES have up to 6,000 bytes: a FILE");
    StubHouse x = stubs(1024, 1024, 1024, 1024, 1024, 674);
    House.due("up to the last byte", x.tape(0, 0) * 10000 + x.tape(1, 0), 60000000);
    House.due("the last byte can be told, none behind it", Math.min(x.byteOf(0, 5999), 0) * 10 + x.byteOf(0, 6000), BAD);
    x.marks(0, 0, 0);
    x.marks(1, 0, 0);
    House.file(x, "q", 1, 0);
    x.step(40);
    House.due("a full one will not do", x.tape(0, 0) * 10000 + x.tape(1, 0), 60000042);
    StubHouse y = stubs(1024, 1024, 1024, 1024, 1024, 675);
    House.due("one byte more: the next tape", y.tape(0, 0) * 10000 + y.tape(1, 0), 52930000 + 8 + 33 + 675);
    House.sentence("T3: TAPES have up to 6,000 bytes: a DELETE");
    for (int left = 20; left <= 22; left++) {
      StubHouse d = stubs(1024, 1024, 1024, 1024, 1024, 674 - left);
      House.due("bytes", d.tape(0, 0), 6000 - left);
      d.remove(1);
      d.sync();
      d.step(60);
      House.due("a DELETE with " + left + " left", d.tape(0, 0) * 100 + d.tape(1, 0), left < 21 ? 598029 : (6000 - left + 21) * 100);
    }
    House.sentence("T3: TAPES have up to 6,000 bytes: what is RECLAIMED");
    for (int size = 673; size <= 675; size++) {
      StubHouse r = stubs(1024, 1024, 1024, 1024, 1024, 675, size);
      House.due("two on tape 1", r.tape(1, 2), 2);
      r.spoil(1, 8, 1);
      r.reclaim(1);
      House.stepsUntil(r, z -> z.told(13) == NONE);
      House.due("its place, SIZE " + size, r.copy(7, 0, 0) * 10000 + r.copy(7, 0, 1), size < 675 ? 5293 : 20008);
    }
  }

  private static void greatest() {
    House.sentence("T3: the greatest SEGMENT: five NAMES and 1,024 bytes");
    StubHouse x = House.deep();
    x.remove(5);
    x.make(4, House.name("zyxw9876"), false);
    House.write(x, 5, 0, 1024, 3);
    x.marks(0, 0, 0);
    x.marks(1, 0, 0);
    x.step(100);
    House.due("bytes", x.tape(0, 0), 8 + 1089);
    House.due("GOOD, SIZE", x.segment(0, 0, 7) * 10000 + x.segment(0, 0, 6), 11024);
    x.reclaim(0);
    House.stepsUntil(x, y -> y.told(13) == NONE);
    House.due("a copy by RECLAIMING", x.tape(1, 0) * 10 + x.segment(1, 0, 7), (8 + 1089) * 10 + 1);
    House.calm(x);
    x.sync();
    x.read(5, 0);
    x.step(60);
    for (int p = 0; p < 1024; p++) House.due("byte " + p, x.read(5, p), (3 + p) & 255);
  }

  private static void allFull() {
    House.sentence("T5: the first for which there is a tape: nothing is done, if there is none");
    StubHouse x = House.sinking();
    for (int f = 1; f <= 36; f++) {
      House.file(x, "f" + f, f % 6 == 0 ? 674 : 1024, 0);
      x.step(100);
      x.sync();
    }
    for (int t = 0; t < 6; t++) House.due("tape " + t + " is full", x.tape(t, 0), 6000);
    House.file(x, "q", 10, 0);
    x.remove(1);
    x.sync();
    x.step(100);
    House.due("a DELETE and a file wait", x.told(8) * 10 + x.told(7), 11);
    House.due("the WRITER has no ACT", x.drive(0, 2), 0);
    House.due("the file is in stores", x.about(37, 0) * 100 + x.about(1, 0) * 10 + x.about(37, 10), 201);
    House.sentence("T5: RECLAIMING with no tape that will do");
    x.reclaim(0);
    x.step(200);
    House.due("what was read waits", x.told(13) * 10 + x.drive(1, 2), 0);
    House.due("the tape is as it was", x.tape(0, 0), 6000);
    House.sentence("T5: the first for which there is a tape: a file, if what is RECLAIMED has none");
    StubHouse w = House.sinking();
    for (int f = 1; f <= 36; f++) {
      House.file(w, "f" + f, f == 36 ? 624 : f % 6 == 0 ? 674 : 1024, 0);
      w.step(100);
      w.sync();
    }
    House.due("50 bytes are left on tape 5", w.tape(5, 0), 5950);
    w.reclaim(0);
    w.step(60);
    House.due("what was read waits", w.drive(1, 0) * 100 + w.drive(1, 2) * 10 + w.drive(0, 2), 0);
    House.sentence("T5 (c): none is wanted, and the READER has no tape: no ACT, though one is being RECLAIMED");
    w.read(7, 0);
    House.stepsUntil(w, y -> y.told(6) == 0);
    House.due("RECALLED from tape 1", w.drive(1, 0) * 10 + w.about(7, 10), 12);
    w.step(2);
    for (int i = 0; i < 3; i++) House.due("no tape, no ACT", w.step(1) * 1000 + w.drive(1, 0) * 10 + w.drive(1, 2), -20);
    House.sentence("T5: the first for which there is a tape: a file, if what is RECLAIMED has none");
    House.file(w, "q", 18, 0);
    w.step(60);
    House.due("51 bytes: it waits, too", w.told(7) * 10000 + w.tape(5, 0), 15950);
    w.cut(37, 17);
    w.step(60);
    House.due("50 bytes: it is written", w.told(7) * 10000 + w.tape(5, 0), 6000);
    House.sentence("T5: the first for which there is a tape: a later one, if the first one has none");
    StubHouse y = House.sinking();
    for (int f = 1; f <= 30; f++) {
      House.file(y, "f" + f, f % 6 == 0 ? 674 : 1024, 0);
      y.step(100);
      y.sync();
    }
    House.due("five tapes are full", y.tape(4, 0) * 10 + y.tape(5, 0), 60000);
    y.copies(2);
    House.file(y, "q", 40, 0);
    House.file(y, "r", 10, 0);
    House.stepsUntil(y, z -> z.about(32, 7) == 1);
    House.due("both have one on tape 5", y.copy(31, 0, 0) * 10 + y.copy(32, 0, 0), 55);
    y.step(60);
    House.due("there is none for a second one", y.about(31, 7) * 100 + y.about(32, 7) * 10 + y.told(7), 112);
  }

  private static void generations() {
    House.sentence("T5: its GENERATION one more (65,536 is 0); T3: its GENERATION (0 at first; 2 bytes)");
    StubHouse x = House.sinking();
    House.file(x, "a", 1, 0);
    x.step(40);
    House.due("at first", x.tape(0, 1) * 10000 + x.byteOf(0, 2) * 100 + x.byteOf(0, 3), 0);
    House.due("BLANK ones", x.tape(5, 1), 0);
    for (int g = 1; g <= 65537; g++) {
      x.reclaim(0);
      x.step(20);
      boolean edge = g <= 2 || (g >= 255 && g <= 257) || g >= 65534;
      if (edge) House.due("GENERATION " + g + " of the BLANK tape", x.tape(0, 1) * 10 + x.tape(0, 0), (g & 65535) * 10);
      x.reclaim(1);
      x.step(20);
      if (edge) dueLabel(x, 0, g & 65535);
    }
    House.due("STAMP and next STAMP", x.segment(0, 0, 4) * 10 + x.told(17), 12);
  }

  private static void dueLabel(StubHouse x, int tape, int generation) {
    int[] label = new int[8];
    int at = House.put(label, 0, 1, 84);
    at = House.put(label, at, 1, tape);
    at = House.put(label, at, 2, generation);
    House.put(label, at, 4, House.check(label, 0, 4));
    for (int i = 0; i < 8; i++) House.due("byte " + i + " of the LABEL in GENERATION " + generation, x.byteOf(tape, i), label[i]);
  }

  private static void labels() {
    House.sentence("T3: a LABEL: 84, its number, its GENERATION, and the CHECK of these four; a BLANK one has none");
    StubHouse x = House.threeTapes();
    dueLabel(x, 0, 1);
    dueLabel(x, 1, 0);
    dueLabel(x, 2, 0);
    House.due("BLANK", x.tape(3, 0) + x.byteOf(3, 0), BAD);
  }

  private static void numbers() {
    House.sentence("T3: numbers of more bytes have the lowest byte first");
    StubHouse x = House.twoTapes(1);
    House.forge(x, 0, House.fileSegment(0x010203, 0x040506, 0x070809, 1, 'z'));
    x.lose();
    x.rebuild();
    House.forge(x, 0);
    x.marks(0, 0, 0);
    x.marks(1, 0, 0);
    House.due("ID, VERSION, STAMP", (x.told(16) - 0x010204) + (x.told(19) - 0x040507) + (x.told(17) - 0x07080a), 0);
    x.make(0, House.name("dd"), true);
    int n = x.make(2, House.name("abcdefgh"), false);
    House.write(x, n, 0, 300, 0);
    x.step(60);
    int[] want = House.fileSegment(0x010204, 0x040507 + 2, 0x07080a, 300, House.name("dd"), House.name("abcdefgh"));
    int data = 21 + 16;
    for (int i = 0; i < 300; i++) want[data + i] = i & 255;
    House.put(want, data + 300, 4, House.check(want, data, data + 300));
    House.due("bytes", x.tape(0, 0), 1065 + want.length);
    for (int i = 0; i < want.length; i++) House.due("byte " + i, x.byteOf(0, 1065 + i), want[i]);
  }

  private static void stamps() {
    House.sentence("T3: STAMPS are 1, 2, .. as SEGMENTS are made (a copy by RECLAIMING keeps its own)");
    StubHouse x = some();
    House.due("1, 2, 3", x.segment(0, 0, 4) * 100 + x.segment(0, 1, 4) * 10 + x.segment(0, 2, 4), 123);
    x.reclaim(0);
    House.stepsUntil(x, y -> y.told(13) == NONE);
    House.due("kept, the next one is 4", x.segment(1, 0, 4) * 10 + x.told(17), 14);
    House.sentence("T3: a STAMP that was given is not given again, though nothing was written");
    StubHouse y = House.sinkingFile();
    y.step(7);
    y.crash(Integer.MAX_VALUE);
    y.step(60);
    House.due("the next one", y.segment(0, 0, 4) * 10 + y.tape(0, 2), 21);
  }

  private static void dueFound(String what, StubHouse x, int want, int[]... parts) {
    House.forge(x, 0, parts);
    House.due(what, x.tape(0, 2), want);
    House.due(what + ", as they are FOUND", x.segment(0, 0, 0), want == 0 ? NONE : 8);
  }

  private static void found() {
    StubHouse x = House.twoTapes(2);
    House.sentence("T3: FOUND: an ID, VERSION, STAMP of 1 .. 16,777,215");
    long[] numbers = {0, 1, 2, MOST - 1, MOST, MOST + 1L, 0x7fffffffL, 0x80000000L, 0x80000001L, 0xffffffffL};
    for (long n : numbers) {
      int want = n >= 1 && n <= MOST ? 1 : 0;
      dueFound("ID " + n, x, want, House.fileSegment(n, 5, 5, 9, 'q'));
      dueFound("VERSION " + n, x, want, House.fileSegment(5, n, 5, 9, 'q'));
      dueFound("STAMP " + n, x, want, House.fileSegment(5, 5, n, 9, 'q'));
      dueFound("ID of a DELETE " + n, x, want, House.segment(2, n, 5, 5, 0, 0));
      dueFound("VERSION of a DELETE " + n, x, want, House.segment(2, 5, n, 5, 0, 0));
      dueFound("STAMP of a DELETE " + n, x, want, House.segment(2, 5, 5, n, 0, 0));
    }
    House.sentence("T3: FOUND: a sort 1 or 2");
    for (int sort : new int[] {0, 1, 2, 3, 255}) {
      dueFound("FILE as sort " + sort, x, sort == 1 ? 1 : 0, House.segment(sort, 5, 5, 5, 1, 0, 'q'), new int[4]);
      dueFound("DELETE as sort " + sort, x, sort == 2 ? 1 : 0, House.segment(sort, 5, 5, 5, 0, 0));
    }
    House.sentence("T3: FOUND: a DEPTH (of a FILE 1 .. 5, of a DELETE 0)");
    for (int depth : new int[] {0, 1, 2, 4, 5, 6, 7}) {
      long[] names = new long[depth];
      for (int i = 0; i < depth; i++) names[i] = 'a' + i;
      dueFound("FILE of DEPTH " + depth, x, depth >= 1 && depth <= 5 ? 1 : 0, House.fileSegment(5, 6, 7, 3, names));
      dueFound("DELETE of DEPTH " + depth, x, depth == 0 ? 1 : 0, House.segment(2, 5, 1, 7, depth, 0, names));
    }
    dueFound("DEPTH 255", x, 0, House.segment(1, 5, 6, 7, 255, 0, 'q'));
    House.sentence("T3: FOUND: a SIZE (of a FILE 0 .. 1,024, of a DELETE 0)");
    for (int size : new int[] {0, 1, 255, 256, 1023, 1024, 1025, 1280}) dueFound("FILE of SIZE " + size, x, size <= 1024 ? 1 : 0, House.fileSegment(5, 6, 7, size, 'q'));
    for (int size : new int[] {0, 1, 256}) dueFound("DELETE of SIZE " + size, x, size == 0 ? 1 : 0, House.segment(2, 5, 1, 7, 0, size), new int[300]);
    int[] wide = House.fileSegment(5, 6, 7, 0, 'q');
    House.put(wide, 23, 2, 0xffff);
    House.put(wide, 25, 4, House.check(wide, 0, 25));
    dueFound("FILE of SIZE 65,535", x, 0, wide);
  }

  private static void foundChecks() {
    House.sentence("T3: FOUND: 83 stands there, and the first CHECK fits");
    int[] s = House.fileSegment(5, 6, 7, 9, 'q');
    int[] d = House.deleteSegment(5, 7);
    StubHouse x = House.twoTapes(1);
    dueFound("a FILE", x, 1, s);
    for (int p = 0; p < 29; p++) {
      for (int mask : new int[] {1, 128}) {
        int[] other = s.clone();
        other[p] ^= mask;
        dueFound("a FILE, byte " + p + " turned by " + mask, x, 0, other);
      }
    }
    for (int p = 0; p < 21; p++) {
      int[] other = d.clone();
      other[p] ^= 1;
      dueFound("a DELETE, byte " + p, x, 0, other);
    }
    for (int first : new int[] {82, 84, 0}) {
      int[] other = s.clone();
      other[0] = first;
      House.put(other, 25, 4, House.check(other, 0, 25));
      dueFound(first + " instead of 83", x, 0, other);
    }
    House.sentence("T3: it is GOOD, if its second CHECK fits, too (a DELETE always is)");
    for (int p = 29; p < s.length; p++) {
      int[] other = s.clone();
      other[p] ^= 1;
      dueFound("a FILE, byte " + p, x, 1, other);
      House.due("not GOOD, byte " + p, x.tape(0, 3) * 10 + x.segment(0, 0, 7), 10);
    }
    dueFound("of SIZE 0", x, 1, House.fileSegment(5, 6, 7, 0, 'q'));
    House.due("the CHECK of no bytes is 17", x.segment(0, 0, 7) * 1000 + x.byteOf(0, 8 + 29) * 10 + x.byteOf(0, 8 + 30), 1170);
    dueFound("a DELETE", x, 1, d);
    House.due("GOOD", x.tape(0, 3) * 10 + x.segment(0, 0, 7), 1);
  }

  private static void foundPlaces() {
    House.sentence("T3: FOUND from the end of the LABEL on (place 8)");
    StubHouse x = House.twoTapes(1);
    int[] s = House.fileSegment(5, 6, 7, 9, 'q');
    for (int place = 0; place < 12; place++) {
      StubHouse y = House.twoTapes(1);
      House.forgeAt(y, 0, place, s);
      House.due("at " + place, y.tape(0, 2), place < 8 ? 0 : 1);
    }
    House.sentence("T3: FOUND: all that it tells lies within the tape's bytes");
    for (int back = -1; back <= 1; back++) {
      House.forge(x, 0);
      int[] file = House.fileSegment(5, 6, 7, 100, 'q');
      int at = 1065 - file.length - back;
      for (int i = 0; i < file.length && at + i < 1065; i++) House.turn(x, 0, at + i, file[i]);
      House.due("a FILE that ends " + back + " ahead of the end", x.tape(0, 2), back < 0 ? 0 : 1);
      House.forge(x, 0);
      int[] delete = House.deleteSegment(5, 7);
      at = 1065 - delete.length - back;
      for (int i = 0; i < delete.length && at + i < 1065; i++) House.turn(x, 0, at + i, delete[i]);
      House.due("a DELETE that ends " + back + " ahead of the end", x.tape(0, 2), back < 0 ? 0 : 1);
    }
    House.forge(x, 0);
    int[] deep = House.fileSegment(5, 6, 7, 0, 'a', 'b', 'c', 'd', 'e');
    for (int left = 1; left < deep.length; left++) {
      for (int i = 0; i < left; i++) House.turn(x, 0, 1065 - left + i, deep[i]);
      House.due("the first " + left + " bytes of it at the end", x.tape(0, 2), 0);
    }
    House.sentence("T3: FOUND: the next one is looked for behind it; else one byte on");
    int[] one = House.fileSegment(5, 6, 7, 60, 'q');
    int[] inner = House.deleteSegment(6, 8);
    System.arraycopy(inner, 0, one, 29 + 10, inner.length);
    House.put(one, 29 + 60, 4, House.check(one, 29, 29 + 60));
    House.forge(x, 0, one, s, new int[1], s);
    House.due("not what is within", x.tape(0, 2) * 1000000 + x.segment(0, 1, 0) * 1000 + x.segment(0, 2, 0), 3000000 + (8 + 93) * 1000 + 8 + 93 + 42 + 1);
    x.spoil(0, 8, 1);
    House.due("but if it is none", x.tape(0, 2) * 1000 + x.segment(0, 0, 0), 3000 + 8 + 39);
    x.spoil(0, 8, 1);
    x.spoil(0, 8 + 29, 1);
    House.due("not if it is not GOOD", x.tape(0, 2) * 1000 + x.segment(0, 0, 0), 3008);
  }

  private static void most() {
    House.sentence("T3: as many as a tape can have");
    StubHouse x = stubs(1024, 1024, 1024, 1024, 1024, 674);
    int[][] parts = new int[285][];
    for (int i = 0; i < 285; i++) parts[i] = House.deleteSegment(i + 1, i + 1);
    House.forge(x, 0, parts);
    House.due("FOUND, the last one", x.tape(0, 2) * 1000 + x.segment(0, 284, 2), 285285);
    House.due("none behind it", x.segment(0, 285, 0), NONE);
    House.due("its place", x.segment(0, 284, 0), 8 + 284 * 21);
    for (int i = 0; i < 180; i++) parts[i] = House.fileSegment(1000 - i, 5, i + 1, 0, House.name("x" + i));
    int[][] files = new int[181][];
    System.arraycopy(parts, 0, files, 0, 180);
    files[180] = House.fileSegment(1, 5, 500, 0, 'a');
    House.forge(x, 0, files);
    House.due("files of SIZE 0", x.view(-1, 0) * 1000 + x.view(0, 0), 181001);
    House.due("the last one", x.view(180, 0), 1000);
    House.due("LIVE", x.tape(0, 4), 181);
  }

  private static void dueView(String what, StubHouse x, int... ids) {
    House.due(what + ": how many", x.view(-1, 0), ids.length);
    for (int i = 0; i < ids.length; i++) House.due(what + ": file " + i, x.view(i, 0), ids[i]);
    House.due(what + ": none behind them", x.view(ids.length, 0), NONE);
  }

  private static void views() {
    StubHouse x = House.twoTapes(1);
    House.sentence("T3: THE VIEW: of each ID the GOOD SEGMENT of the greatest STAMP, if it is a FILE");
    House.forge(x, 0, House.fileSegment(9, 1, 5, 1, 'a'), House.fileSegment(9, 2, 6, 1, 'b'), House.fileSegment(9, 3, 4, 1, 'c'));
    dueView("one ID", x, 9);
    House.due("VERSION", x.view(0, 4), 2);
    x.spoil(0, 8 + 34 + 29, 1);
    dueView("the greatest is not GOOD", x, 9);
    House.due("VERSION", x.view(0, 4), 1);
    x.spoil(0, 8 + 34 + 29, 1);
    House.forge(x, 1, House.deleteSegment(9, 7));
    dueView("a greater DELETE on another tape", x);
    House.forge(x, 1, House.deleteSegment(9, 5));
    dueView("a lesser DELETE", x, 9);
    House.forge(x, 1, House.deleteSegment(9, 6));
    dueView("a DELETE of a like STAMP on a greater tape", x, 9);
    House.forge(x, 1, House.fileSegment(9, 2, 6, 1, 'b'));
    House.forge(x, 0, House.deleteSegment(9, 6));
    dueView("a DELETE of a like STAMP on a lesser tape", x);
    House.sentence("T3: THE VIEW: of several the one on the least tape, then at the least place");
    House.forge(x, 0, House.deleteSegment(8, 1), House.fileSegment(9, 4, 6, 2, 'b'), House.fileSegment(9, 5, 6, 2, 'b'));
    dueView("one ID", x, 9);
    House.due("tape, place, VERSION", x.view(0, 1) * 1000 + x.view(0, 2) * 10 + x.view(0, 4), 294);
    x.spoil(0, 8 + 21 + 29, 1);
    House.due("the next place", x.view(0, 1) * 1000 + x.view(0, 2) * 10 + x.view(0, 4), (8 + 21 + 35) * 10 + 5);
    x.spoil(0, 8 + 21 + 35 + 29, 1);
    House.due("the next tape", x.view(0, 1) * 1000 + x.view(0, 2) * 10 + x.view(0, 4), 1082);
  }

  private static void viewGoesAlong() {
    House.sentence("T3: THE VIEW is what the tapes tell now: when a SEGMENT is written, spoiled, when a tape is BLANKED");
    StubHouse x = House.sinkingFile();
    dueView("nothing", x);
    x.step(8);
    dueView("a SEGMENT is written", x, 1);
    x.spoil(0, 8 + 29, 1);
    dueView("spoiled", x);
    x.spoil(0, 8 + 29, 1);
    dueView("turned back", x, 1);
    x.reclaim(0);
    House.stepsUntil(x, y -> y.tape(1, 0) > 0);
    House.due("of like STAMPS the one on tape 0", x.view(0, 1), 0);
    House.stepsUntil(x, y -> y.told(13) == NONE);
    House.due("tape 0 is BLANKED", x.view(0, 1), 1);
    x.spoil(1, 8 + 29, 1);
    x.reclaim(1);
    dueView("spoiled", x);
    x.spoil(1, 8 + 29, 1);
    dueView("turned back", x, 1);
    x.spoil(1, 8 + 29, 1);
    House.stepsUntil(x, y -> y.told(13) == NONE);
    dueView("tape 1 is BLANKED", x);
    House.sentence("T3: what tells of bytes behind the end is FOUND when they are there");
    for (int size = 100; size <= 101; size++) {
      int[] s = House.fileSegment(50, 60, 70, size, 'q');
      StubHouse z = House.twoTapes(1);
      for (int i = 0; i < 60; i++) House.turn(z, 0, 1065 - 60 + i, s[i]);
      House.due("not yet", z.tape(0, 2), 0);
      z.marks(0, 0, 0);
      z.marks(1, 0, 0);
      House.file(z, "a", 40, 0);
      z.step(40);
      House.due("73 bytes later, SIZE " + size, z.tape(0, 2) * 10000 + z.segment(0, 0, 0), 10000 + (size == 100 ? 1005 : 1065));
      House.file(z, "b", 40, 0);
      z.step(40);
      House.due("146 bytes later, SIZE " + size, z.tape(0, 2) * 10000 + z.segment(0, 0, 0), (size == 100 ? 20000 : 10000) + 1005);
      House.due("what comes behind it", z.segment(0, 1, 0), size == 100 ? 1065 + 73 : NONE);
    }
  }

  private static void viewPaths() {
    StubHouse x = House.twoTapes(1);
    House.sentence("T3: THE VIEW: they are taken by falling STAMPS: one is left out whose path is that of another one that is there");
    House.forge(x, 0, House.fileSegment(5, 1, 10, 1, 'a'), House.fileSegment(6, 2, 11, 1, 'a'));
    dueView("the greater STAMP stays", x, 6);
    House.forge(x, 0, House.fileSegment(5, 1, 11, 1, 'a'), House.fileSegment(6, 2, 10, 1, 'a'));
    dueView("the greater STAMP stays", x, 5);
    House.sentence("T3: THE VIEW: (of like ones the lesser ID first)");
    House.forge(x, 0, House.fileSegment(6, 1, 10, 1, 'a'), House.fileSegment(5, 2, 10, 1, 'a'));
    dueView("the lesser ID stays", x, 5);
    House.sentence("T3: THE VIEW: or goes through it");
    House.forge(x, 0, House.fileSegment(5, 1, 11, 1, 'a'), House.fileSegment(6, 2, 10, 1, 'a', 'b'), House.fileSegment(7, 2, 9, 1, 'a', 'b', 'c'));
    dueView("a/b and a/b/c go through a", x, 5);
    House.sentence("T3: THE VIEW: or that the other one's goes through");
    House.forge(x, 0, House.fileSegment(5, 1, 9, 1, 'a'), House.fileSegment(6, 2, 10, 1, 'a', 'b'), House.fileSegment(7, 2, 11, 1, 'a', 'b', 'c'));
    dueView("a/b/c goes through a and a/b", x, 7);
    House.sentence("T3: THE VIEW: of another one that is there: what was left out is in no one's way");
    House.forge(x, 0, House.fileSegment(5, 1, 11, 1, 'p', 'q'), House.fileSegment(6, 2, 10, 1, 'p'), House.fileSegment(7, 2, 9, 1, 'p', 'r'));
    dueView("p/q, p/r", x, 5, 7);
    House.sentence("T3: THE VIEW: other paths stay");
    House.forge(x, 0, House.fileSegment(5, 1, 11, 1, 'a'), House.fileSegment(6, 2, 10, 1, House.name("ab")), House.fileSegment(7, 2, 9, 1, 'b', 'a'), House.fileSegment(8, 2, 8, 1, 'c', 'a'),
        House.fileSegment(9, 2, 7, 1, 'c', 'b'), House.fileSegment(4, 2, 6, 1, 'd', 'e', 'f', 'g', 'h'), House.fileSegment(3, 2, 5, 1, 'd', 'e', 'f', 'g', 'i'));
    dueView("by rising IDs", x, 3, 4, 5, 6, 7, 8, 9);
    House.sentence("29: by rising IDs, where ever they are");
    House.forge(x, 0, House.fileSegment(9, 1, 11, 1, 'a'), House.fileSegment(5, 2, 10, 2, 'b'), House.fileSegment(6, 3, 9, 3, 'c'));
    House.forge(x, 1, House.fileSegment(7, 4, 12, 4, 'd'), House.fileSegment(3, 5, 8, 5, 'e'), House.fileSegment(8, 6, 7, 6, 'f'));
    dueView("on two tapes", x, 3, 5, 6, 7, 8, 9);
    int[][] want = {{3, 1, 45, 5, 5}, {5, 0, 42, 2, 2}, {6, 0, 77, 3, 3}, {7, 1, 8, 4, 4}, {8, 1, 83, 6, 6}, {9, 0, 8, 1, 1}};
    for (int i = 0; i < want.length; i++) for (int k = 0; k < 5; k++) House.due("view(" + i + ", " + k + ")", x.view(i, k), want[i][k]);
  }

  private static void live() {
    StubHouse x = House.twoTapes(1);
    int[] f5 = House.fileSegment(9, 1, 5, 1, 'a');
    int[] f6 = House.fileSegment(9, 1, 6, 1, 'a');
    int[] d5 = House.deleteSegment(9, 5);
    int[] d6 = House.deleteSegment(9, 6);
    int[] bad6 = f6.clone();
    bad6[29] ^= 1;
    int[] bad5 = f5.clone();
    bad5[29] ^= 1;
    House.sentence("T5: LIVE: a GOOD SEGMENT of whose ID no GOOD one is on any tape with a greater STAMP, and that is a FILE");
    dueLive("alone", x, new int[][] {f5}, new int[][] {}, "1", "");
    dueLive("not GOOD", x, new int[][] {bad5}, new int[][] {}, "0", "");
    dueLive("a greater one behind it", x, new int[][] {f5, f6}, new int[][] {}, "01", "");
    dueLive("a greater one ahead of it", x, new int[][] {f6, f5}, new int[][] {}, "10", "");
    dueLive("a greater one on another tape", x, new int[][] {f5}, new int[][] {f6}, "0", "1");
    dueLive("a greater one that is not GOOD", x, new int[][] {f5, bad6}, new int[][] {bad6}, "10", "0");
    dueLive("a greater DELETE", x, new int[][] {f5}, new int[][] {d6}, "0", "1");
    dueLive("a greater one of another ID", x, new int[][] {f5, House.fileSegment(8, 1, 6, 1, 'b')}, new int[][] {}, "11", "");
    House.sentence("T5: LIVE: nor on another tape one with the same");
    dueLive("on another tape", x, new int[][] {f5}, new int[][] {f5}, "0", "0");
    dueLive("on the same tape", x, new int[][] {f5, f5}, new int[][] {}, "11", "");
    dueLive("on another tape, not GOOD", x, new int[][] {f5}, new int[][] {bad5}, "1", "0");
    dueLive("on another tape, a DELETE", x, new int[][] {f5}, new int[][] {d5}, "0", "0");
    House.sentence("T5: LIVE: or a DELETE, and another tape has one (FOUND) of that ID");
    dueLive("none has", x, new int[][] {d5}, new int[][] {}, "0", "");
    dueLive("only its own tape has", x, new int[][] {f5, d6}, new int[][] {}, "00", "");
    dueLive("another tape has a FILE", x, new int[][] {d6}, new int[][] {f5}, "1", "0");
    dueLive("another tape has one that is not GOOD", x, new int[][] {d6}, new int[][] {bad5}, "1", "0");
    dueLive("another tape has a greater one that is not GOOD", x, new int[][] {d5}, new int[][] {bad6}, "1", "0");
    dueLive("another tape has a DELETE", x, new int[][] {d6}, new int[][] {d5}, "1", "0");
    dueLive("another tape has one of another ID", x, new int[][] {d6}, new int[][] {House.fileSegment(8, 1, 5, 1, 'b')}, "0", "1");
    dueLive("another tape has a greater FILE", x, new int[][] {d5}, new int[][] {f6}, "0", "1");
  }

  private static void dueLive(String what, StubHouse x, int[][] on0, int[][] on1, String want0, String want1) {
    House.forge(x, 0, on0);
    House.forge(x, 1, on1);
    House.due(what + ", tape 0", liveOn(x, 0), want0);
    House.due(what + ", tape 1", liveOn(x, 1), want1);
  }

  private static String liveOn(StubHouse x, int tape) {
    StringBuilder s = new StringBuilder();
    int sum = 0;
    for (int i = 0; i < x.tape(tape, 2); i++) {
      s.append(x.segment(tape, i, 8));
      sum += x.segment(tape, i, 8);
    }
    House.due("tape(" + tape + ", 4)", x.tape(tape, 4), sum);
    return s.toString();
  }

  private static void liveCopies() {
    House.sentence("T5: LIVE: a GOOD SEGMENT that FITS a file of which its place is a COPY");
    int[] copy = House.fileSegment(9, 1, 5, 1, 'a');
    int[] later = House.fileSegment(9, 2, 6, 1, 'a');
    StubHouse x = House.twoTapes(1);
    House.forge(x, 0, copy);
    x.lose();
    x.rebuild();
    House.forgeAt(x, 0, 8 + 34, later);
    House.due("the COPY is LIVE, and the later one", liveOn(x, 0), "11");
    x.spoil(0, 8 + 29, 1);
    House.due("not if it is not GOOD", liveOn(x, 0), "01");
    x.spoil(0, 8 + 29, 1);
    x.cut(1, 0);
    House.due("nor if it is no COPY any more", liveOn(x, 0), "01");
    StubHouse y = House.twoTapes(1);
    House.forge(y, 0, copy);
    y.lose();
    y.rebuild();
    House.forge(y, 0, House.fileSegment(9, 3, 5, 1, 'a'), later);
    House.due("nor if it does not FIT", liveOn(y, 0), "01");
    y.lose();
    House.due("nor when both stores are LOST", liveOn(y, 0), "01");
    StubHouse z = House.twoTapes(1);
    House.forge(z, 0, copy, House.fileSegment(9, 1, 4, 1, 'a'), later);
    z.spoil(0, 8 + 34 + 34, 1);
    z.lose();
    z.rebuild();
    z.spoil(0, 8 + 34 + 34, 1);
    House.due("nor if its place is none, though it FITS", liveOn(z, 0), "101");
  }

  private static void tapeRefused() {
    House.sentence("25: BAD: none such");
    for (int t : new int[] {-1, 6, 7}) for (int k = 0; k < 5; k++) House.due("tape(" + t + ", " + k + ")", some().tape(t, k), BAD);
    for (int t : new int[] {0, 5}) for (int k : new int[] {-1, 5, 6}) House.due("tape(" + t + ", " + k + ")", some().tape(t, k), BAD);
    for (int v : House.FAR) House.due("tape of " + v, some().tape(v, 0) * 10 + some().tape(0, v), -11);
    House.refused("tape(6, 0)", BAD, EdgesOfTapes::some, x -> x.tape(6, 0));
    House.refused("tape(0, 5)", BAD, EdgesOfTapes::some, x -> x.tape(0, 5));
    House.sentence("25: 0 its bytes, 1 GENERATION, 2 SEGMENTS that are FOUND, 3 those that are not GOOD, 4 LIVE ones");
    StubHouse x = some();
    int[] want = {8 + 73 + 83 + 21, 0, 3, 0, 1};
    for (int k = 0; k < 5; k++) House.due("tape(0, " + k + ")", x.tape(0, k), want[k]);
    for (int k = 0; k < 5; k++) House.due("of a BLANK one: tape(5, " + k + ")", x.tape(5, k), 0);
    x.lose();
    for (int k = 0; k < 5; k++) House.due("never LOST: tape(0, " + k + ")", x.tape(0, k), want[k]);
  }

  private static void byteRefused() {
    House.sentence("26: BAD: no such tape, place");
    for (int t : new int[] {-1, 6}) House.refused("byteOf(" + t + ", 0)", BAD, EdgesOfTapes::some, x -> x.byteOf(t, 0));
    for (int p : new int[] {-1, 185, 186, 5999, 6000}) House.refused("byteOf(0, " + p + ")", BAD, EdgesOfTapes::some, x -> x.byteOf(0, p));
    for (int v : House.FAR) House.due("byteOf of " + v, some().byteOf(v, 0) * 10 + some().byteOf(0, v), -11);
    House.due("of a BLANK one", some().byteOf(1, 0), BAD);
    House.due("the first one, the last one", some().byteOf(0, 0) * 10 + (some().byteOf(0, 184) >= 0 ? 1 : 0), 841);
    StubHouse x = House.lost();
    House.due("never LOST", x.byteOf(0, 0) * 10 + x.byteOf(0, 81), 840 - 1);
  }

  private static void spoilRefused() {
    House.sentence("27: BAD: no such tape, place");
    for (int t : new int[] {-1, 1, 6}) House.refused("spoil(" + t + ", 0, 1)", BAD, EdgesOfTapes::some, x -> x.spoil(t, 0, 1));
    for (int p : new int[] {-1, 185, 186, 5999, 6000}) House.refused("spoil(0, " + p + ", 1)", BAD, EdgesOfTapes::some, x -> x.spoil(0, p, 1));
    for (int v : House.FAR) House.due("spoil of " + v, some().spoil(v, 0, 1) * 10 + some().spoil(0, v, 1), -11);
    House.sentence("27: BAD: mask is not 1 .. 255");
    for (int m : new int[] {0, -1, 256, 257, 512, -256}) House.refused("spoil(0, 50, " + m + ")", BAD, EdgesOfTapes::some, x -> x.spoil(0, 50, m));
    for (int m : House.FAR) House.due("mask " + m, some().spoil(0, 50, m), BAD);
    House.sentence("27: its bits that mask has are turned: what it is");
    StubHouse x = some();
    for (int p : new int[] {0, 8, 184}) {
      for (int m : new int[] {1, 127, 128, 255}) {
        int was = x.byteOf(0, p);
        House.due("spoil(0, " + p + ", " + m + ")", x.spoil(0, p, m), was ^ m);
        House.due("byteOf(0, " + p + ")", x.byteOf(0, p), was ^ m);
        House.due("turned back", x.spoil(0, p, m), was);
      }
    }
    House.dueSame("all turned back", x, some());
    House.due("never LOST", House.lost().spoil(0, 0, 1), 85);
  }

  private static void segmentRefused() {
    House.sentence("28: BAD: no such tape, i below 0, no such what");
    for (int t : new int[] {-1, 6}) House.refused("segment(" + t + ", 0, 0)", BAD, EdgesOfTapes::some, x -> x.segment(t, 0, 0));
    for (int i : new int[] {-1, -2}) House.refused("segment(0, " + i + ", 0)", BAD, EdgesOfTapes::some, x -> x.segment(0, i, 0));
    for (int k : new int[] {-1, 9, 10}) House.refused("segment(0, 0, " + k + ")", BAD, EdgesOfTapes::some, x -> x.segment(0, 0, k));
    for (int v : House.FAR) House.due("segment of " + v, some().segment(v, 0, 0) * 10 + some().segment(0, 0, v), -11);
    for (int v : House.FAR) House.due("SEGMENT " + v, some().segment(0, v, 0), v < 0 ? BAD : NONE);
    House.sentence("28: NONE: none such; BAD is looked at first");
    for (int k = 0; k < 9; k++) {
      int what = k;
      House.refused("segment(0, 3, " + k + ")", NONE, EdgesOfTapes::some, x -> x.segment(0, 3, what));
      House.due("of a BLANK one: segment(5, 0, " + k + ")", some().segment(5, 0, k), NONE);
      House.due("the last one: segment(0, 2, " + k + ")", some().segment(0, 2, k), new int[] {8 + 73 + 83, 2, 2, 1, 3, 0, 0, 1, 0}[k]);
    }
    House.due("no such what of none such", some().segment(0, 3, 9), BAD);
    House.due("no such what of a BLANK one", some().segment(5, 0, -1), BAD);
    House.due("never LOST", House.lost().segment(0, 0, 6), 40);
  }

  private static void viewRefused() {
    House.sentence("29: BAD: i below - 1");
    for (int i : new int[] {-2, -3}) House.refused("view(" + i + ", 0)", BAD, EdgesOfTapes::some, x -> x.view(i, 0));
    House.sentence("29: BAD: no such what");
    for (int k : new int[] {-1, 5, 6}) House.refused("view(0, " + k + ")", BAD, EdgesOfTapes::some, x -> x.view(0, k));
    for (int k : new int[] {-1, 5}) House.due("view(-1, " + k + ")", some().view(-1, k), BAD);
    for (int v : House.FAR) House.due("view of " + v, some().view(0, v), BAD);
    for (int v : House.FAR) House.due("file " + v, some().view(v, 0), v < 0 ? BAD : NONE);
    House.sentence("29: i = - 1: how many there are (what 0)");
    House.due("one", some().view(-1, 0), 1);
    House.due("none", new StubHouse().view(-1, 0), 0);
    for (int k = 1; k < 5; k++) House.due("view(-1, " + k + ")", some().view(-1, k), BAD);
    House.sentence("29: NONE: none such; BAD is looked at first");
    for (int k = 0; k < 5; k++) {
      int what = k;
      House.refused("view(1, " + k + ")", NONE, EdgesOfTapes::some, x -> x.view(1, what));
      House.due("of nothing: view(0, " + k + ")", new StubHouse().view(0, k), NONE);
      House.due("view(0, " + k + ")", some().view(0, k), new int[] {1, 0, 8, 40, 2}[k]);
    }
    House.due("no such what of none such", some().view(1, 5), BAD);
    House.due("never LOST", House.lost().view(-1, 0), 1);
  }

  public static void main(String[] args) {
    sixThousand();
    greatest();
    allFull();
    generations();
    labels();
    numbers();
    stamps();
    found();
    foundChecks();
    foundPlaces();
    most();
    views();
    viewGoesAlong();
    viewPaths();
    live();
    liveCopies();
    tapeRefused();
    byteRefused();
    spoilRefused();
    segmentRefused();
    viewRefused();
    House.end();
  }
}
