import java.util.function.Supplier;

/** Edges of term 5 and of promises 14, 21 to 24: each sentence that names one, in the document's order. */
public final class EdgesOfDrives {
  private static final int BAD = -1, NONE = -2, RECALLING = -4, STATE = -6, LOST = -8;

  /** Files a, b, .. (1, 2, ..) of these sizes, STUBS on tape 0; the drives are empty, nothing sinks any more, all is KEPT. */
  private static StubHouse stubs(int... sizes) {
    StubHouse x = House.sinking();
    for (int i = 0; i < sizes.length; i++) {
      House.file(x, "" + (char) ('a' + i), sizes[i], 10 * i);
      x.step(100);
    }
    x.sync();
    x.crash(0);
    House.calm(x);
    return x;
  }

  private static void sink(StubHouse x) {
    x.marks(0, 0, 0);
    x.marks(1, 0, 0);
  }

  private static void mounting() {
    House.sentence("T5: mounting 3 (HEAD is 0 from the beginning on), unmounting 2 (no tape then)");
    StubHouse x = stubs(40);
    x.read(1, 0);
    House.dueDrives("mounting", x, "-2,0,0,0 0,0,1,2", "-2,0,0,0 0,0,1,1", "-2,0,0,0 0,0,0,0", "-2,0,0,0 0,8,0,0", "-2,0,0,0 0,8,4,1", "-2,0,0,0 0,73,0,0",
        "-2,0,0,0 0,73,2,1", "-2,0,0,0 -2,0,0,0", "-2,0,0,0 -2,0,0,0");
  }

  private static void windingOn() {
    House.sentence("T5: winding 1 for each 256 bytes begun of the way (HEAD is there then)");
    int[][] rows = {{255, 1}, {256, 1}, {257, 2}, {511, 2}, {512, 2}, {513, 3}, {1024, 4}, {1025, 5}, {1065, 5}};
    for (int[] r : rows) {
      StubHouse x = stubs(r[0] - 41);
      House.due("bytes of the tape", x.tape(0, 0), r[0]);
      sink(x);
      House.file(x, "q", 1, 0);
      House.stepsUntil(x, y -> y.drive(0, 2) == 1);
      House.due("mounting", House.stepsUntil(x, y -> y.drive(0, 2) == 0) * 10 + x.drive(0, 1), 20);
      x.step(1);
      House.due("winding " + r[0], x.drive(0, 2) * 10 + x.drive(0, 3), r[1] == 1 ? 0 : 30 + r[1] - 1);
      House.due("HEAD stays till then", x.drive(0, 1), r[1] == 1 ? r[0] : 0);
      House.due("HEAD is there", 1 + House.stepsUntil(x, y -> y.drive(0, 1) == r[0]), r[1]);
    }
  }

  private static void windingBack() {
    House.sentence("T5: winding back takes as long");
    int[][] rows = {{255, 1}, {256, 1}, {257, 2}, {512, 2}, {513, 3}};
    for (int[] r : rows) {
      int rest = r[0] - 58;
      StubHouse x = stubs(rest / 2, rest - rest / 2);
      x.read(2, 0);
      House.stepsUntil(x, y -> y.about(2, 10) == 2);
      House.due("HEAD", x.drive(1, 1), 8 + r[0]);
      x.read(1, 0);
      House.due("winding " + r[0], House.stepsUntil(x, y -> y.drive(1, 1) == 8), r[1]);
      House.due("it is at hand then", x.drive(1, 2), 0);
    }
  }

  private static void reading() {
    House.sentence("T5: reading 1, and 1 for each 64 bytes begun of SIZE (of the file; HEAD is 25 and SIZE behind its place then)");
    int[][] rows = {{1, 2}, {63, 2}, {64, 2}, {65, 3}, {128, 3}, {129, 4}, {1023, 17}, {1024, 17}};
    for (int[] r : rows) {
      StubHouse x = stubs(r[0]);
      x.read(1, 0);
      House.stepsUntil(x, y -> y.drive(1, 1) == 8);
      House.due("reading " + r[0], House.stepsUntil(x, y -> y.about(1, 10) == 2), r[1]);
      House.due("HEAD", x.drive(1, 1), 8 + 25 + r[0]);
      House.sentence("T5: reading: of the SEGMENT when RECLAIMING");
      StubHouse z = stubs(r[0]);
      z.reclaim(0);
      House.stepsUntil(z, y -> y.drive(1, 1) == 8);
      House.due("reading " + r[0], House.stepsUntil(z, y -> y.drive(1, 1) != 8), r[1]);
      House.due("HEAD", z.drive(1, 1), 8 + 25 + r[0]);
    }
  }

  /** ID 1 is on tapes 0 and 1, its DELETE behind it on tape 1 at 81; tape 1 is being RECLAIMED. */
  private static StubHouse deleteReclaimed() {
    StubHouse x = House.sinkingFile();
    x.copies(2);
    x.step(60);
    x.remove(1);
    x.sync();
    x.step(20);
    x.crash(Integer.MAX_VALUE);
    x.reclaim(1);
    return x;
  }

  private static void readingOfDelete() {
    House.sentence("T5: reading of a DELETE (SIZE 0): 1, HEAD is 25 behind its place");
    StubHouse x = deleteReclaimed();
    House.due("the DELETE at 81 is LIVE", x.segment(1, 1, 0) * 10 + x.segment(1, 1, 8), 811);
    House.dueDrives("RECLAIMING", x, "-2,0,0,0 1,0,1,2", "-2,0,0,0 1,0,1,1", "-2,0,0,0 1,0,0,0", "-2,0,0,0 1,81,0,0", "0,0,1,2 1,106,0,0",
        "0,0,1,1 1,106,0,0", "0,0,0,0 1,106,0,0", "0,81,0,0 1,106,0,0", "0,102,0,0 1,106,0,0", "0,102,0,0 1,0,0,0", "0,102,0,0 1,0,2,1", "0,102,0,0 -2,0,0,0");
    House.due("it is on tape 0", x.segment(0, 1, 1) * 100 + x.segment(0, 1, 4) * 10 + x.tape(1, 0), 230);
  }

  private static void writing() {
    House.sentence("T5: writing 1 for each 64 bytes begun of the SEGMENT and of its LABEL, on a BLANK tape (HEAD is behind it then)");
    int[][] blank = {{1, 1}, {23, 1}, {24, 2}, {87, 2}, {88, 3}, {1024, 17}};
    for (int[] r : blank) {
      StubHouse x = House.sinking();
      House.file(x, "a", r[0], 0);
      House.stepsUntil(x, y -> y.drive(0, 2) == 1);
      House.stepsUntil(x, y -> y.drive(0, 2) == 0);
      House.due("writing " + r[0], House.stepsUntil(x, y -> y.tape(0, 0) > 0), r[1]);
      House.due("HEAD, bytes", x.drive(0, 1) * 10000 + x.tape(0, 0), (41 + r[0]) * 10001);
    }
    House.sentence("T5: writing 1 for each 64 bytes begun of the SEGMENT");
    int[][] more = {{1, 1}, {31, 1}, {32, 2}, {95, 2}, {96, 3}, {1024, 17}};
    for (int[] r : more) {
      StubHouse x = House.sinkingFile();
      x.step(100);
      House.file(x, "q", r[0], 0);
      House.stepsUntil(x, y -> y.told(7) == 1);
      House.due("writing " + r[0], House.stepsUntil(x, y -> y.tape(0, 0) > 81), r[1]);
      House.due("HEAD, bytes", x.drive(0, 1) * 10000 + x.tape(0, 0), (81 + 33 + r[0]) * 10001);
    }
    House.sentence("T5: writing of a SEGMENT with five NAMES");
    for (int size : new int[] {55, 56}) {
      StubHouse x = House.deep();
      x.remove(5);
      x.make(4, 'e', false);
      House.write(x, 5, 0, size, 0);
      sink(x);
      House.stepsUntil(x, y -> y.drive(0, 2) == 1);
      House.stepsUntil(x, y -> y.drive(0, 2) == 0);
      House.due("writing " + size, House.stepsUntil(x, y -> y.tape(0, 0) > 0), size == 55 ? 2 : 3);
      House.due("bytes, DEPTH", x.tape(0, 0) * 10 + x.segment(0, 0, 5), (8 + 65 + size) * 10 + 5);
    }
    House.sentence("T5: writing of a DELETE: 1");
    StubHouse d = stubs(40);
    d.remove(1);
    d.sync();
    House.dueDrives("a DELETE", d, "0,0,1,2 -2,0,0,0", "0,0,1,1 -2,0,0,0", "0,0,0,0 -2,0,0,0", "0,81,0,0 -2,0,0,0", "0,102,0,0 -2,0,0,0");
  }

  private static void stampAtTheBeginning() {
    House.sentence("T5: a SEGMENT that is to be written is made, with its STAMP, when that ACT is begun; it is done with the last of its STEPS");
    StubHouse x = House.sinkingFile();
    x.step(6);
    House.due("STAMP, bytes", x.told(17) * 1000 + x.tape(0, 0), 1000);
    x.step(1);
    House.due("begun", x.told(17) * 1000 + x.tape(0, 0), 2000);
    x.move(1, 0, 'z');
    x.step(1);
    House.due("done", x.told(17) * 1000 + x.tape(0, 0), 2081);
    House.due("with the NAME that it had", x.byteOf(0, 8 + 15), 'a');
    House.due("a COPY is noted", x.about(1, 7), 1);
  }

  private static void room() {
    House.sentence("T5 (a): those count for which there is room now: as many BLOCKS FREE in FAST, or in SLOW, as the file has");
    // FREE in FAST, in SLOW; where its two BLOCKS come: 0 nowhere, 1 FAST, 2 SLOW
    int[][] rows = {{0, 0, 0}, {1, 0, 0}, {0, 1, 0}, {1, 1, 0}, {2, 0, 1}, {0, 2, 2}, {1, 2, 2}, {2, 1, 1}, {2, 2, 1}, {3, 3, 1}};
    for (int[] r : rows) {
      StubHouse x = stubs(40);
      House.fillUp(x, 2, 208);
      if (r[0] > 0) x.cut(2, 1024 - 32 * r[0]);
      if (r[1] > 0) x.cut(8, 512 - 32 * r[1]);
      x.sync();
      House.due("FREE", x.told(4) * 10 + x.told(5), r[0] * 10 + r[1]);
      x.read(1, 0);
      x.step(1);
      House.due("it counts with " + r[0] + ", " + r[1], x.drive(1, 0), r[2] == 0 ? NONE : 0);
      x.step(30);
      House.due("RECALLED with " + r[0] + ", " + r[1], x.about(1, 8) * 10 + x.about(1, 9), r[2] == 0 ? 0 : r[2] == 1 ? 20 : 2);
      House.due("it waits", x.told(6), r[2] == 0 ? 1 : 0);
    }
    House.sentence("T5 (a): what does not count is passed by");
    StubHouse x = stubs(65, 40);
    House.fillUp(x, 3, 206);
    x.read(1, 0);
    x.read(2, 0);
    House.due("two FREE", x.told(5), 2);
    x.step(30);
    House.due("the second one is RECALLED", x.about(2, 10) * 100 + x.about(1, 10) * 10 + x.told(6), 231);
  }

  private static void leastPlace() {
    House.sentence("T5 (a): the one with the least place from HEAD on");
    StubHouse x = stubs(10, 20, 30);
    for (int f : new int[] {3, 2, 1}) x.read(f, 0);
    House.stepsUntil(x, y -> y.told(6) == 2);
    House.due("1 first", x.about(1, 10), 2);
    House.stepsUntil(x, y -> y.told(6) == 1);
    House.due("2 then", x.about(2, 10), 2);
    House.sentence("T5 (a): from HEAD on, ahead of what lies before it");
    StubHouse z = stubs(10, 20, 30);
    z.read(2, 0);
    House.stepsUntil(z, y -> y.told(6) == 0);
    z.read(1, 0);
    z.read(3, 0);
    House.stepsUntil(z, y -> y.told(6) == 1);
    House.due("3 first", z.about(3, 10), 2);
    House.stepsUntil(z, y -> y.told(6) == 0);
    House.due("1 then", z.about(1, 10), 2);
    House.sentence("T5 (a): else the least place");
    StubHouse w = stubs(10, 20, 30);
    w.read(3, 0);
    House.stepsUntil(w, y -> y.told(6) == 0);
    w.read(2, 0);
    w.read(1, 0);
    House.stepsUntil(w, y -> y.told(6) == 1);
    House.due("1 first", w.about(1, 10), 2);
    House.sentence("T5 (a): what stands at HEAD itself is from HEAD on");
    StubHouse v = stubs(10, 20, 30);
    v.read(2, 0);
    House.stepsUntil(v, y -> y.drive(1, 1) == v.copy(2, 0, 1));
    v.read(3, 0);
    v.read(1, 0);
    House.stepsUntil(v, y -> y.told(6) == 2);
    House.due("2 first", v.about(2, 10), 2);
  }

  /** a (1) has COPIES on tapes 0 and 1, b (2) on tape 1; the drives are empty. */
  private static StubHouse onTwoTapes() {
    StubHouse x = House.sinkingFile();
    x.copies(2);
    x.step(60);
    x.copies(1);
    House.file(x, "b", 30, 7);
    x.step(40);
    x.sync();
    x.crash(0);
    House.calm(x);
    House.due("tapes", x.copy(1, 0, 0) * 100 + x.copy(1, 1, 0) * 10 + x.copy(2, 0, 0), 11);
    return x;
  }

  private static void firstThatWaits() {
    House.sentence("T5 (a): each is of its first COPY's tape; the first that waits tells the tape that is wanted");
    StubHouse x = onTwoTapes();
    x.read(1, 0);
    x.read(2, 0);
    x.step(1);
    House.due("that of 1", x.drive(1, 0), 0);
    StubHouse y = onTwoTapes();
    y.read(2, 0);
    y.read(1, 0);
    y.step(1);
    House.due("that of 2", y.drive(1, 0), 1);
    House.stepsUntil(y, z -> z.told(6) == 1);
    House.due("1 is not read there", y.about(1, 10) * 10 + y.about(2, 10), 32);
    House.sentence("T5 (c): a tape that is wanted and is not its own: unmounting, if it has one; else mounting");
    House.dueDrives("to tape 0", y, "-2,0,0,0 1,136,2,1", "-2,0,0,0 -2,0,0,0", "-2,0,0,0 0,0,1,2");
    StubHouse v = onTwoTapes();
    v.read(1, 0);
    v.read(2, 0);
    House.stepsUntil(v, z -> z.told(6) == 1);
    House.dueDrives("from tape 0 to 1", v, "-2,0,0,0 0,73,2,1", "-2,0,0,0 -2,0,0,0", "-2,0,0,0 1,0,1,2");
    House.sentence("T5 (a): if its tape has some, that is gone on with, whatever waits first");
    StubHouse w = onTwoTapes();
    w.read(2, 0);
    w.step(3);
    w.crash(0);
    w.read(1, 0);
    w.read(2, 0);
    w.step(1);
    House.due("tape 0 for 1", w.drive(1, 0), 0);
  }

  private static void wants() {
    House.sentence("T5 (c): if the WRITER has it, nothing, but it WANTS it; THE WRITER: if the READER WANTS its tape: unmounting");
    StubHouse x = stubs(40);
    sink(x);
    House.file(x, "b", 100, 0);
    House.file(x, "c", 1, 0);
    House.stepsUntil(x, y -> y.drive(0, 2) == 5);
    House.calm(x);
    House.due("two wait to be written", x.told(7), 2);
    x.read(1, 0);
    House.dueDrives("wanted", x, "0,81,5,1 -2,0,0,0", "0,214,0,0 -2,0,0,0", "0,214,2,1 -2,0,0,0", "-2,0,0,0 -2,0,0,0", "1,0,1,2 0,0,1,2", "1,0,1,1 0,0,1,1",
        "1,0,0,0 0,0,0,0", "1,42,0,0 0,8,0,0");
    House.due("what waits first has its COPY and goes, c is on tape 1", x.about(2, 7) * 100 + x.copy(3, 0, 0) * 10 + x.told(7), 111);
    House.sentence("T5 (c): it WANTS it in this STEP, not in later ones");
    StubHouse w = House.stub();
    w.read(1, 0);
    House.stepsUntil(w, y -> y.about(1, 10) == 2);
    w.remove(1);
    w.step(2);
    sink(w);
    House.file(w, "q", 10, 0);
    House.stepsUntil(w, y -> y.drive(0, 0) == 0);
    House.dueDrives("the WRITER has it again", w, "0,0,1,1 -2,0,0,0", "0,0,0,0 -2,0,0,0", "0,81,0,0 -2,0,0,0", "0,124,0,0 -2,0,0,0");
    House.sentence("T5: A drive has a tape until it was unmounted");
    StubHouse z = House.stub();
    z.read(1, 0);
    House.dueDrives("wanted", z, "0,81,2,1 -2,0,0,0", "-2,0,0,0 -2,0,0,0", "-2,0,0,0 0,0,1,2");
  }

  private static void noneWanted() {
    House.sentence("T5 (c): if none is wanted: unmounting, if it has a tape that is not being RECLAIMED");
    StubHouse x = stubs(40);
    x.read(1, 0);
    x.step(3);
    x.remove(1);
    House.dueDrives("none waits", x, "-2,0,0,0 0,0,2,1", "-2,0,0,0 -2,0,0,0", "-2,0,0,0 -2,0,0,0");
    StubHouse y = stubs(40);
    y.reclaim(0);
    y.step(6);
    House.due("read", House.drives(y), "1,0,1,2 0,73,0,0");
    House.dueDrives("what was read waits, or is being written", y, "1,0,1,1 0,73,0,0", "1,0,0,0 0,73,0,0", "1,0,5,1 0,73,0,0", "1,81,0,0 0,73,0,0", "1,81,0,0 0,0,0,0",
        "1,81,0,0 0,0,2,1", "1,81,0,0 -2,0,0,0");
  }

  private static void recallsFirst() {
    House.sentence("T5 (b): a tape is RECLAIMED only if no RECALL counts");
    StubHouse x = onTwoTapes();
    x.reclaim(1);
    x.read(1, 0);
    x.step(1);
    House.due("tape 0 first", x.drive(1, 0), 0);
    House.stepsUntil(x, y -> y.told(6) == 0);
    House.stepsUntil(x, y -> y.drive(1, 0) == 1);
    House.due("then tape 1", x.told(13), 1);
    x.read(2, 0);
    House.stepsUntil(x, y -> y.told(6) == 0);
    House.due("a RECALL from the tape that is being RECLAIMED", x.about(2, 10) * 10 + x.told(13), 21);
    House.stepsUntil(x, y -> y.told(13) == NONE);
    House.due("BLANKED at last", x.tape(1, 0) * 10 + x.tape(1, 1), 1);
    House.due("COPIES are elsewhere: tape 0 has one of 1, then the WRITER has tape 2", x.copy(1, 1, 0) * 10 + x.copy(2, 0, 0), 22);
  }

  private static void fits() {
    House.sentence("T5: a SEGMENT FITS a file, if a GOOD one is FOUND there, a FILE with its ID, VERSION and SIZE");
    int[] gap = {0};
    int[][][] none = {{House.fileSegment(2, 2, 1, 40, 'a')}, {House.fileSegment(1, 1, 1, 40, 'a')}, {House.fileSegment(1, 3, 1, 40, 'a')}, {House.fileSegment(1, 2, 1, 39, 'a')},
        {House.deleteSegment(1, 1)}, {gap, House.fileSegment(1, 2, 1, 39, 'a')}, {gap}};
    for (int i = 0; i < none.length; i++) {
      StubHouse x = stubs(40);
      House.forge(x, 0, none[i]);
      x.read(1, 0);
      House.stepsUntil(x, y -> y.told(6) == 0);
      House.due("none FITS: the COPY goes, row " + i, x.about(1, 10) * 10 + x.about(1, 7), 40);
      House.due("a RECORD of it, row " + i, x.told(9) * 100 + x.told(10), 112);
    }
    StubHouse y = stubs(40);
    House.forge(y, 0, House.fileSegment(1, 2, 77, 40, 'z'));
    y.read(1, 0);
    House.stepsUntil(y, z -> z.told(6) == 0);
    House.due("another STAMP and path", y.about(1, 10) * 1000 + y.read(1, 39), 2000 + (7 * 39) % 256);
    for (int p = 8 + 29; p < 81; p++) {
      StubHouse z = stubs(40);
      z.spoil(0, p, 128);
      z.read(1, 0);
      House.stepsUntil(z, w -> w.told(6) == 0);
      House.due("not GOOD at " + p, z.about(1, 10), 4);
    }
  }

  private static void secondCopy() {
    House.sentence("T5: that COPY goes; the RECALL waits on, of the next one");
    StubHouse x = onTwoTapes();
    x.spoil(0, 8 + 29, 1);
    x.read(1, 0);
    House.stepsUntil(x, y -> y.about(1, 7) == 1);
    House.due("it waits, its first COPY is on tape 1", x.told(6) * 10 + x.copy(1, 0, 0), 11);
    House.due("none such", x.copy(1, 1, 0), NONE);
    House.stepsUntil(x, y -> y.told(6) == 0);
    House.due("RECALLED", x.about(1, 10) * 1000 + x.read(1, 39), 1139 + 1000);
  }

  private static void noRoomAtTheEnd() {
    House.sentence("T5: READ for a RECALL: else, if there is room: RECALLED (else it waits on)");
    StubHouse x = stubs(40);
    House.fillUp(x, 2, 206);
    x.read(1, 0);
    House.stepsUntil(x, y -> y.drive(1, 2) == 4);
    House.due("a BLOCK is taken", House.file(x, "q", 1, 0) * 10 + x.told(5), 91);
    x.step(1);
    House.due("read, but not RECALLED", House.drives(x), "-2,0,0,0 0,73,0,0");
    House.due("it waits, with its COPY", x.told(6) * 100 + x.about(1, 10) * 10 + x.about(1, 7), 131);
    x.remove(9);
    x.sync();
    House.stepsUntil(x, y -> y.told(6) == 0);
    House.due("RECALLED later", x.about(1, 10), 2);
    House.sentence("T5: READ for a RECALL that waits still, of a place that is a COPY of the file still, a STUB");
    StubHouse y = stubs(40);
    y.spoil(0, 8 + 29, 1);
    y.read(1, 0);
    House.stepsUntil(y, z -> z.drive(1, 2) == 4);
    y.cut(1, 0);
    y.sync();
    y.step(1);
    House.due("cut to 0: nothing is done", y.told(9) * 10 + y.about(1, 10), 0);
    StubHouse z = stubs(40);
    z.read(1, 0);
    House.stepsUntil(z, w -> w.drive(1, 2) == 4);
    z.remove(1);
    House.file(z, "n", 5, 0);
    z.sync();
    z.step(1);
    House.due("another file of that number: nothing is done", z.told(9) * 10 + z.about(1, 10), 1);
  }

  private static void noCopyAnyMore() {
    House.sentence("T5: READ for a RECALL of a place that is a COPY of the file still (else nothing is done, it waits on)");
    StubHouse x = stubs(40);
    x.reclaim(0);
    x.step(8);
    x.read(1, 0);
    House.dueDrives("read while its COPY is put elsewhere", x, "1,0,5,1 0,8,0,0", "1,81,0,0 0,8,4,1", "1,81,0,0 0,73,0,0");
    House.due("it waits, a STUB, its COPY is on tape 1", x.told(6) * 100 + x.about(1, 10) * 10 + x.copy(1, 0, 0), 131);
    House.dueDrives("tape 1 is wanted", x, "1,81,0,0 0,73,2,1", "1,81,0,0 -2,0,0,0", "1,81,2,1 -2,0,0,0", "-2,0,0,0 -2,0,0,0", "-2,0,0,0 1,0,1,2");
    House.stepsUntil(x, y -> y.told(6) == 0);
    House.due("RECALLED", x.about(1, 10) * 1000 + x.read(1, 39), 2000 + 39);
  }

  private static void passedOver() {
    House.sentence("T5: one that was READ waits for the WRITER, if it is LIVE still (else it is passed over)");
    StubHouse x = stubs(40, 50);
    x.reclaim(0);
    House.stepsUntil(x, y -> y.drive(1, 2) == 4);
    x.spoil(0, 8 + 29, 1);
    House.dueDrives("the next one is wound to", x, "-2,0,0,0 0,73,0,0", "-2,0,0,0 0,81,0,0", "-2,0,0,0 0,81,4,1");
    House.stepsUntil(x, y -> y.told(13) == NONE);
    House.due("only that one is saved", x.tape(1, 2) * 10 + x.segment(1, 0, 2), 12);
    House.due("the other's COPY went", x.about(1, 10) * 10 + x.about(2, 10), 43);
    House.sentence("T5: that writes the bytes that were read");
    StubHouse z = stubs(40);
    z.reclaim(0);
    House.stepsUntil(z, y -> y.drive(0, 2) == 1);
    z.spoil(0, 8 + 29, 255);
    z.spoil(0, 8, 255);
    House.stepsUntil(z, y -> y.told(13) == NONE);
    House.due("GOOD on tape 1", z.segment(1, 0, 7) * 10 + z.copy(1, 0, 0), 11);
    House.sentence("T5: if the place was a COPY of a file still");
    StubHouse w = stubs(40);
    w.reclaim(0);
    House.stepsUntil(w, y -> y.drive(0, 2) == 5);
    w.cut(1, 0);
    w.sync();
    w.step(1);
    House.due("it is none any more: written, no RECORD", w.tape(1, 2) * 100 + w.about(1, 7) * 10 + w.told(9), 100);
  }

  private static void leastNode() {
    House.sentence("T5: (of the least node, if it is of more)");
    StubHouse x = stubs(40);
    x.spoil(0, 8 + 29, 1);
    x.reclaim(0);
    House.stepsUntil(x, y -> y.told(13) == NONE);
    x.crash(0);
    House.due("a COPY on the BLANK tape", x.copy(1, 0, 0) * 10 + x.tape(0, 0), 0);
    sink(x);
    House.file(x, "b", 50, 0);
    x.step(60);
    House.calm(x);
    House.due("two files have it at 8", x.copy(1, 0, 1) * 10 + x.copy(2, 0, 1) + x.copy(2, 0, 0), 88);
    House.due("it FITS the second one", x.tape(0, 4), 1);
    x.sync();
    x.reclaim(0);
    House.stepsUntil(x, y -> y.tape(1, 0) > 0);
    House.due("the COPY of the least node is elsewhere", x.copy(1, 0, 0) * 10 + x.copy(2, 0, 0), 10);
    House.stepsUntil(x, y -> y.told(13) == NONE);
    House.due("the other's goes", x.about(1, 10) * 10 + x.about(2, 10), 34);
  }

  private static void blanked() {
    House.sentence("T5: BLANKED: a SYNC is done, then the tape is BLANK, its GENERATION one more, its HEAD 0, all COPIES there go");
    StubHouse x = stubs(40, 50);
    x.spoil(0, 8 + 29, 1);
    x.spoil(0, 81 + 29, 1);
    House.file(x, "q", 64, 0);
    House.write(x, 3, 0, 32, 1);
    x.reclaim(0);
    x.step(3);
    House.due("RECORDS, HELD", x.told(9) * 10 + x.told(3), 31);
    x.step(1);
    House.due("the READER has no ACT in this STEP", House.drives(x), "-2,0,0,0 0,0,0,0");
    House.due("HELD ones are FREE, bytes, GENERATION", x.told(3) * 100 + x.tape(0, 0) * 10 + x.tape(0, 1), 1);
    House.due("two COPIES went, not KEPT", x.told(9) * 100 + x.told(10), 224);
    House.due("DAMAGED", x.about(1, 10) * 10 + x.about(2, 10), 44);
    House.due("no tape is being RECLAIMED", x.told(13), NONE);
    House.due("one of them has not happened", x.crash(23) * 100 + x.about(1, 10) * 10 + x.about(2, 10), 143);
    House.sentence("T5: BLANKED with HEAD elsewhere");
    StubHouse y = stubs(40);
    y.reclaim(0);
    House.stepsUntil(y, z -> z.told(13) == NONE);
    House.due("HEAD 0", House.drives(y), "1,81,0,0 0,0,0,0");
    House.sentence("T5: a RECALL of a file that is without COPIES then waits no more");
    StubHouse w = stubs(40);
    House.fillUp(w, 2, 208);
    w.spoil(0, 8 + 29, 1);
    w.read(1, 0);
    w.reclaim(0);
    w.step(3);
    House.due("it waits, but does not count", w.told(6) * 10 + w.drive(1, 0), 10);
    w.step(1);
    House.due("none waits", w.told(6) * 10 + w.about(1, 10), 4);
  }

  private static void reclaimAgain() {
    House.sentence("T5: a tape that has no LIVE SEGMENT at all is BLANKED");
    StubHouse x = stubs(40);
    House.forge(x, 0);
    x.reclaim(0);
    House.dueDrives("RECLAIMING", x, "-2,0,0,0 0,0,1,2", "-2,0,0,0 0,0,1,1", "-2,0,0,0 0,0,0,0", "-2,0,0,0 0,0,0,0", "-2,0,0,0 0,0,2,1");
    House.due("BLANK", x.tape(0, 0) * 10 + x.tape(0, 1), 1);
    House.due("it cannot be RECLAIMED then", x.reclaim(0), STATE);
  }

  private static void filesThatGo() {
    House.sentence("T5: files that wait go that are no more, have SIZE 0, their COPIES, or are STUBS, when THE WRITER is without ACT");
    StubHouse x = House.sinking();
    for (int i = 0; i < 5; i++) House.file(x, "f" + i, 32, 0);
    x.copies(2);
    House.stepsUntil(x, y -> y.told(7) == 5);
    House.due("the WRITER has an ACT, one STEP to go", x.drive(0, 2) * 10 + x.drive(0, 3), 51);
    House.calm(x);
    x.remove(2);
    x.cut(3, 0);
    x.step(1);
    House.due("they wait while it has an ACT", x.told(7) * 10 + x.about(1, 7), 51);
    x.step(1);
    House.due("two went: no more, SIZE 0", x.told(7), 3);
    House.stepsUntil(x, y -> y.about(5, 7) == 1);
    x.copies(1);
    x.step(2);
    House.due("all have their COPIES", x.told(7), 0);
    House.sentence("T5: a file of the same number is another one");
    StubHouse z = House.sinking();
    for (int i = 0; i < 3; i++) House.file(z, "f" + i, 10, 0);
    House.stepsUntil(z, y -> y.told(7) == 3);
    House.calm(z);
    z.remove(3);
    House.file(z, "g", 10, 0);
    House.stepsUntil(z, y -> y.told(7) == 0);
    z.step(30);
    House.due("it does not wait", z.about(3, 7) * 10 + z.tape(0, 2), 2);
    StubHouse w = House.sinking();
    House.file(w, "a", 1000, 0);
    House.file(w, "b", 10, 0);
    House.stepsUntil(w, y -> y.drive(0, 2) == 5);
    House.due("both wait", w.told(7), 2);
    w.remove(2);
    House.file(w, "g", 10, 0);
    w.step(3);
    House.due("it comes to wait, too, while the other one has not gone", w.told(7) * 10 + w.drive(0, 2), 35);
    House.stepsUntil(w, y -> y.about(2, 7) == 1);
    House.due("it is written, the other one is not", w.tape(0, 2) * 10 + w.segment(0, 1, 2), 23);
  }

  private static void notedIf() {
    House.sentence("T5: it is noted as a COPY, if the file is there still, with that ID and VERSION");
    StubHouse x = House.sinkingFile();
    x.step(7);
    x.move(1, 0, 'q');
    x.step(1);
    House.due("moved", x.about(1, 7), 1);
    StubHouse y = House.sinkingFile();
    y.step(7);
    y.cut(1, 40);
    y.step(1);
    House.due("cut to the same SIZE: another VERSION", y.about(1, 7) * 10 + y.tape(0, 2), 1);
    StubHouse z = House.sinkingFile();
    z.step(7);
    z.remove(1);
    House.file(z, "q", 40, 100);
    z.step(1);
    House.due("another file of that number", z.about(1, 7) * 10 + z.tape(0, 2), 1);
    StubHouse w = House.sinkingFile();
    w.step(7);
    w.remove(1);
    w.make(0, 'q', true);
    w.step(1);
    House.due("a directory of that number", w.about(1, 0) * 10 + w.tape(0, 2), 11);
  }

  private static void whatIsWrittenFirst() {
    House.sentence("T5: first DELETES (by rising IDs), then what is RECLAIMED, then files that wait (as they came)");
    StubHouse x = stubs(40, 50, 60);
    x.reclaim(0);
    House.stepsUntil(x, y -> y.drive(0, 2) == 1);
    x.remove(3);
    x.remove(2);
    x.sync();
    sink(x);
    House.file(x, "q", 10, 0);
    House.stepsUntil(x, y -> y.told(7) == 1);
    House.due("all three wait, tape 1 is mounted", x.told(8) * 100 + x.tape(1, 0) * 10 + x.drive(0, 2), 200);
    House.calm(x);
    House.stepsUntil(x, y -> y.tape(1, 2) == 4);
    House.due("sorts", x.segment(1, 0, 1) * 1000 + x.segment(1, 1, 1) * 100 + x.segment(1, 2, 1) * 10 + x.segment(1, 3, 1), 2211);
    House.due("IDs", x.segment(1, 0, 2) * 1000 + x.segment(1, 1, 2) * 100 + x.segment(1, 2, 2) * 10 + x.segment(1, 3, 2), 2314);
    House.sentence("T5: files that wait, as they came");
    StubHouse z = House.sinking();
    for (int i = 0; i < 4; i++) House.file(z, "f" + i, i % 2 == 0 ? 10 : 40, 0);
    z.step(120);
    House.due("by RANK: those of two BLOCKS first", z.segment(0, 0, 2) * 1000 + z.segment(0, 1, 2) * 100 + z.segment(0, 2, 2) * 10 + z.segment(0, 3, 2), 2413);
  }

  private static void whichTape() {
    House.sentence("T5: a tape will do if the READER has it not");
    StubHouse x = stubs(40);
    x.read(1, 0);
    x.step(1);
    sink(x);
    House.file(x, "q", 10, 0);
    x.step(12);
    House.due("tape 1", x.copy(2, 0, 0), 1);
    House.sentence("T5: a tape will do if it is not being RECLAIMED");
    StubHouse z = onTwoTapes();
    z.read(2, 0);
    z.step(1);
    z.reclaim(0);
    sink(z);
    House.file(z, "q", 10, 0);
    House.stepsUntil(z, w -> w.drive(0, 0) != NONE);
    House.due("not 0, not 1: tape 2", z.drive(1, 0) * 10 + z.drive(0, 0), 12);
    House.sentence("T5: a tape will do if it has no COPY of that file");
    StubHouse v = House.sinkingFile();
    v.copies(2);
    v.step(60);
    House.due("tapes 0 and 1", v.copy(1, 0, 0) * 10 + v.copy(1, 1, 0), 1);
    StubHouse u = House.sinkingFile();
    u.copies(2);
    u.step(8);
    House.dueDrives("its own has one: unmounting, mounting the least that will do", u, "0,81,2,1 -2,0,0,0", "-2,0,0,0 -2,0,0,0", "1,0,1,2 -2,0,0,0", "1,0,1,1 -2,0,0,0",
        "1,0,0,0 -2,0,0,0", "1,0,5,1 -2,0,0,0", "1,81,0,0 -2,0,0,0", "1,81,0,0 -2,0,0,0");
    House.sentence("T5: of what is RECLAIMED: of the file of which it was a COPY, if it still is");
    StubHouse a = onTwoTapes();
    a.reclaim(0);
    House.stepsUntil(a, w -> w.told(13) == NONE);
    House.due("not tape 1: tape 2", a.copy(1, 0, 0) * 10 + a.copy(1, 1, 0), 21);
    StubHouse b = onTwoTapes();
    b.reclaim(1);
    House.stepsUntil(b, w -> w.drive(0, 2) == 1);
    House.due("of one whose other COPY is on tape 0: tape 2", b.drive(0, 0), 2);
    StubHouse e = onTwoTapes();
    e.reclaim(1);
    House.stepsUntil(e, w -> w.drive(1, 2) == 4);
    e.cut(1, 0);
    House.stepsUntil(e, w -> w.drive(0, 2) == 1);
    House.due("it is no COPY any more: tape 0", e.drive(0, 0), 0);
    House.sentence("T5: if its own will do; if it has another one: unmounting; else mounting the least that will do");
    StubHouse c = House.sinkingFile();
    c.copies(2);
    c.step(60);
    c.copies(1);
    House.file(c, "q", 10, 0);
    c.step(20);
    House.due("its own, not the least", c.drive(0, 0) * 10 + c.copy(2, 0, 0), 11);
    c.sync();
    c.crash(0);
    House.file(c, "r", 10, 0);
    c.step(20);
    House.due("the least", c.copy(3, 0, 0), 0);
  }

  private static void copyRefused() {
    Supplier<StubHouse> some = () -> {
      StubHouse x = stubs(40);
      x.make(0, 'd', true);
      x.make(0, 'e', false);
      return x;
    };
    House.sentence("14: BAD: no FILE");
    for (int f : new int[] {-1, 0, 2, 4, 59, 60}) House.refused("copy(" + f + ", 0, 0)", BAD, some, x -> x.copy(f, 0, 0));
    for (int f : House.FAR) House.due("copy(" + f + ", 0, 0)", some.get().copy(f, 0, 0), BAD);
    House.sentence("14: BAD: i is not 0, 1");
    for (int i : new int[] {-1, 2, 3}) House.refused("copy(1, " + i + ", 0)", BAD, some, x -> x.copy(1, i, 0));
    for (int i : House.FAR) House.due("copy(1, " + i + ", 0)", some.get().copy(1, i, 0), BAD);
    House.sentence("14: BAD: no such what");
    for (int k : new int[] {-1, 2, 3}) House.refused("copy(1, 0, " + k + ")", BAD, some, x -> x.copy(1, 0, k));
    for (int k : House.FAR) House.due("copy(1, 0, " + k + ")", some.get().copy(1, 0, k), BAD);
    House.sentence("14: NONE: none such; BAD is looked at first");
    for (int k = 0; k < 2; k++) {
      int what = k;
      House.refused("copy(1, 1, " + k + ")", NONE, some, x -> x.copy(1, 1, what));
      House.refused("copy(3, 0, " + k + ")", NONE, some, x -> x.copy(3, 0, what));
    }
    House.due("of DAMAGED", House.damaged().copy(1, 0, 0), NONE);
    House.due("no such what of none such", some.get().copy(3, 0, 2), BAD);
    House.due("no such i of none such", some.get().copy(3, 2, 0), BAD);
    House.sentence("14: LOST ahead of BAD");
    House.refused("copy(-1, 2, 2)", LOST, House::lost, x -> x.copy(-1, 2, 2));
    House.due("copy(1, 0, 0)", House.lost().copy(1, 0, 0), LOST);
  }

  private static void stepRefused() {
    House.sentence("21: so many STEPS (1 .. 500); BAD: another number");
    for (int n : new int[] {0, -1, 501, 502, -500}) {
      House.refused("step(" + n + ")", BAD, House::sinkingFile, x -> x.step(n));
      House.refused("step(" + n + ") when LOST", BAD, House::lost, x -> x.step(n));
    }
    for (int n : House.FAR) House.due("step(" + n + ")", new StubHouse().step(n), BAD);
    StubHouse x = new StubHouse();
    House.due("1", x.step(1) * 1000 + x.told(0), 1);
    House.due("500", x.step(500) * 1000 + x.told(0), 501);
    StubHouse one = House.sinkingFile();
    StubHouse many = House.sinkingFile();
    for (int i = 0; i < 500; i++) one.step(1);
    many.step(500);
    House.dueSame("500 at once", many, one);
  }

  private static void reclaimRefused() {
    House.sentence("22: BAD: no such tape");
    for (int t : new int[] {-1, 6, 7}) House.refused("reclaim(" + t + ")", BAD, () -> stubs(40), x -> x.reclaim(t));
    for (int t : House.FAR) House.due("reclaim(" + t + ")", stubs(40).reclaim(t), BAD);
    House.sentence("22: STATE: it is BLANK");
    for (int t : new int[] {1, 5}) House.refused("reclaim(" + t + ")", STATE, () -> stubs(40), x -> x.reclaim(t));
    House.sentence("22: STATE: one is being so");
    Supplier<StubHouse> busy = () -> {
      StubHouse x = onTwoTapes();
      x.reclaim(1);
      return x;
    };
    for (int t : new int[] {0, 1, 2}) House.refused("reclaim(" + t + ")", STATE, busy, x -> x.reclaim(t));
    for (int t : new int[] {0, 1, 2}) {
      House.refused("reclaim(" + t + ") when tape 0 is being so", STATE, () -> {
        StubHouse x = onTwoTapes();
        x.reclaim(0);
        return x;
      }, x -> x.reclaim(t));
    }
    House.refused("BAD ahead of STATE", BAD, busy, x -> x.reclaim(6));
    House.sentence("22: LOST, ahead of STATE");
    for (int t : new int[] {0, 1, 6}) House.refused("reclaim(" + t + ")", LOST, House::lost, x -> x.reclaim(t));
  }

  private static void driveRefused() {
    House.sentence("23: BAD: none such");
    for (int d : new int[] {-1, 2, 3}) for (int k = 0; k < 4; k++) House.due("drive(" + d + ", " + k + ")", House.stub().drive(d, k), BAD);
    for (int d = 0; d < 2; d++) for (int k : new int[] {-1, 4, 5}) House.due("drive(" + d + ", " + k + ")", House.stub().drive(d, k), BAD);
    for (int v : House.FAR) House.due("drive of " + v, House.stub().drive(v, 0) * 10 + House.stub().drive(0, v), -11);
    House.sentence("23: its tape (NONE), HEAD (0 without a tape), STEPS to go (0 without)");
    StubHouse x = new StubHouse();
    for (int d = 0; d < 2; d++) House.due("drive " + d, x.drive(d, 0) * 1000 + x.drive(d, 1) + x.drive(d, 2) + x.drive(d, 3), -2000);
    House.due("HEAD without a tape behind an unmounting", House.drives(unmounted()), "-2,0,0,0 -2,0,0,0");
    House.sentence("23: it is never LOST");
    House.due("empty", House.drives(House.lost()), "-2,0,0,0 -2,0,0,0");
    House.refused("drive(2, 0) when LOST", BAD, House::lost, y -> y.drive(2, 0));
  }

  private static StubHouse unmounted() {
    StubHouse x = stubs(40);
    x.read(1, 0);
    x.step(8);
    return x;
  }

  private static void toldRefused() {
    House.sentence("24: BAD: another number");
    for (int k : new int[] {-1, 20, 21}) {
      House.refused("told(" + k + ")", BAD, House::stub, x -> x.told(k));
      House.refused("told(" + k + ") when LOST", BAD, House::lost, x -> x.told(k));
    }
    for (int k : House.FAR) House.due("told(" + k + ")", House.stub().told(k), BAD);
    House.sentence("24: LOST: 1 to 5, 9, 10, 18 are 0");
    StubHouse x = House.sinkingFile();
    x.step(4);
    for (int k : new int[] {2, 3, 4, 5, 9, 10, 18}) House.due("told(" + k + ") was above 0", Math.min(x.told(k), 1), 1);
    x.lose();
    for (int k : new int[] {1, 2, 3, 4, 5, 9, 10, 18}) House.due("told(" + k + ")", x.told(k), 0);
    House.sentence("24: the tape that is being RECLAIMED (NONE)");
    StubHouse y = stubs(40);
    House.due("none", y.told(13), NONE);
    House.due("tape 0", y.reclaim(0) * 10 + y.told(13), 0);
    House.sentence("24: whether both stores are LOST");
    House.due("not, so, not", y.told(14) * 100 + (y.lose() - 1) + y.told(14) * 10 + (y.rebuild() - 1) + y.told(14), 10);
  }

  public static void main(String[] args) {
    mounting();
    windingOn();
    windingBack();
    reading();
    readingOfDelete();
    writing();
    stampAtTheBeginning();
    room();
    leastPlace();
    firstThatWaits();
    wants();
    noneWanted();
    recallsFirst();
    fits();
    secondCopy();
    noRoomAtTheEnd();
    noCopyAnyMore();
    passedOver();
    leastNode();
    blanked();
    reclaimAgain();
    filesThatGo();
    notedIf();
    whatIsWrittenFirst();
    whichTape();
    copyRefused();
    stepRefused();
    reclaimRefused();
    driveRefused();
    toldRefused();
    House.end();
  }
}
