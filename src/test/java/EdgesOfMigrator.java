/** Edges of term 6, and of the watermarks of promise 15: each sentence that names one, in the document's order. */
public final class EdgesOfMigrator {
  private static final int NONE = -2;

  /** Files 1 and 2 of so many BLOCKS in FAST, one of them read at a TIME, seen at TIME 20. */
  private static StubHouse two(int blocks1, int blocks2, int readFile, int time) {
    StubHouse x = new StubHouse();
    House.file(x, "a", 32 * blocks1, 0);
    House.file(x, "b", 32 * blocks2, 0);
    if (time > 0) x.step(time);
    x.read(readFile, 0);
    x.step(20 - time);
    return x;
  }

  private static int firstThatSinks(StubHouse x) {
    x.marks(0, 0, 0);
    x.step(1);
    return x.about(1, 9) * 10 + x.about(2, 9);
  }

  private static void ranks() {
    House.sentence("T6: RANK: TIME less TOUCH, and four times the BLOCKS added to that; the greatest first, of equal ones the lesser node");
    House.due("one BLOCK more is less than 5 of TIME", firstThatSinks(two(1, 2, 2, 5)), 10);
    House.due("and as much as 4", firstThatSinks(two(1, 2, 2, 4)), 10);
    House.due("and more than 3", firstThatSinks(two(1, 2, 2, 3)), 1);
    House.due("the same of the lesser node: 5", firstThatSinks(two(2, 1, 1, 5)), 1);
    House.due("4", firstThatSinks(two(2, 1, 1, 4)), 10);
    House.due("3", firstThatSinks(two(2, 1, 1, 3)), 10);
    House.due("like ones", firstThatSinks(two(3, 3, 1, 0)), 10);
    House.sentence("T6: RANK: the greatest first, of many");
    int[][] rows = {{1, 2, 3, 4, 5}, {5, 4, 3, 2, 1}, {2, 5, 1, 4, 3}, {3, 1, 5, 3, 1}, {1, 1, 2, 2, 1}};
    String[] due = {"54321", "12345", "24513", "31425", "34125"};
    for (int i = 0; i < rows.length; i++) {
      StubHouse m = House.sinking();
      for (int f = 0; f < 5; f++) House.file(m, "f" + f, 32 * rows[i][f], 0);
      m.step(200);
      StringBuilder got = new StringBuilder();
      for (int k = 0; k < 5; k++) got.append(m.segment(0, k, 2));
      House.due("files are written, row " + i, got.toString(), due[i]);
    }
    House.sentence("T6: RANK: all BLOCKS count, where ever they are");
    StubHouse x = two(3, 3, 1, 0);
    x.marks(0, 0, 0);
    x.step(3);
    House.due("the first one goes on till it has none there", x.about(1, 9) * 10 + x.about(2, 9), 30);
    x.step(1);
    House.due("then the other one", x.about(1, 9) * 10 + x.about(2, 9), 31);
    House.sentence("T6: RANK: a part of a BLOCK counts as one");
    StubHouse y = new StubHouse();
    House.file(y, "a", 32, 0);
    House.file(y, "b", 33, 0);
    House.due("33 bytes are two", firstThatSinks(y), 1);
    StubHouse z = new StubHouse();
    House.file(z, "a", 33, 0);
    House.file(z, "b", 64, 0);
    House.due("64 bytes are two, too", firstThatSinks(z), 10);
  }

  private static void fastMode() {
    House.sentence("T6: FAST MODE is on when files have more than HIGH BLOCKS in FAST (40 at first), and off when no more than LOW (30)");
    StubHouse x = new StubHouse();
    House.fillUp(x, 1, 40);
    x.step(1);
    House.due("40: off", x.told(11) * 100 + x.told(1), 40);
    House.file(x, "q", 1, 0);
    x.step(1);
    House.due("41: on, one is moved", x.told(11) * 100 + x.told(1), 140);
    x.step(9);
    House.due("between them it stays: on", x.told(11) * 100 + x.told(1), 131);
    x.step(1);
    House.due("the last one", x.told(11) * 100 + x.told(1), 130);
    x.step(1);
    House.due("30: off", x.told(11) * 100 + x.told(1), 30);
    x.sync();
    House.write(x, 2, 256, 320, 0);
    x.step(3);
    House.due("between them it stays: off", x.told(11) * 100 + x.told(1), 40);
    House.sentence("T6: only BLOCKS that files have count");
    StubHouse y = new StubHouse();
    House.fillUp(y, 1, 41);
    y.cut(1, 992);
    y.step(1);
    House.due("one is HELD", y.told(11) * 100 + y.told(1) + y.told(3), 41);
    House.sentence("T6: HIGH and LOW of 0, and alike");
    StubHouse z = new StubHouse();
    z.marks(0, 0, 0);
    z.step(1);
    House.due("none: off", z.told(11), 0);
    House.file(z, "a", 1, 0);
    z.step(1);
    House.due("one: on", z.told(11) * 10 + z.told(1), 10);
    z.step(1);
    House.due("none: off", z.told(11), 0);
    StubHouse w = new StubHouse();
    House.fillUp(w, 1, 48);
    w.marks(0, 48, 48);
    w.step(1);
    House.due("all of FAST", w.told(11), 0);
    w.marks(0, 47, 47);
    w.step(1);
    House.due("one above", w.told(11) * 100 + w.told(1), 147);
    w.step(1);
    House.due("no more", w.told(11) * 100 + w.told(1), 47);
  }

  private static void slowMode() {
    House.sentence("T6: SLOW MODE likewise (140, 100)");
    StubHouse x = new StubHouse();
    x.marks(0, 48, 48);
    House.fillUp(x, 1, 48 + 140);
    x.step(1);
    House.due("140: off", x.told(12) * 1000 + x.told(2), 140);
    x.step(5);
    House.due("nothing waits", x.told(7), 0);
    House.file(x, "q", 1, 0);
    x.step(1);
    House.due("141: on, one waits", x.told(12) * 1000 + x.told(2) + x.told(7) * 10000, 11141);
    House.stepsUntil(x, y -> y.told(2) <= 100);
    House.due("RELEASED: it is looked at in the next STEP", x.told(12), 1);
    int left = x.told(2);
    x.step(1);
    House.due("no more than 100: off", x.told(12) * 1000 + x.told(2), left);
    House.sentence("T6: SLOW MODE: at LOW itself, and one above");
    for (int low = 2; low <= 4; low++) {
      StubHouse y = new StubHouse();
      y.marks(0, 0, 0);
      y.marks(1, 4, low);
      House.file(y, "a", 96, 0);
      House.file(y, "b", 64, 0);
      House.stepsUntil(y, z -> z.about(1, 10) == 3);
      y.step(1);
      House.due("two are left, LOW is " + low, y.told(2) * 10 + y.told(12), 20);
    }
    StubHouse z = new StubHouse();
    z.marks(0, 0, 0);
    z.marks(1, 4, 1);
    House.file(z, "a", 96, 0);
    House.file(z, "b", 64, 0);
    House.stepsUntil(z, y -> y.about(1, 10) == 3);
    z.step(1);
    House.due("two are left, LOW is 1", z.told(2) * 10 + z.told(12), 21);
  }

  private static void slowLow() {
    House.sentence("T6: SLOW MODE is off when no more than LOW (100 at first)");
    for (int left = 100; left <= 101; left++) {
      StubHouse x = new StubHouse();
      x.marks(0, 48, 48);
      House.fillUp(x, 1, 48);
      int[] blocks = {32, 109 - left, 32, 32, 32, left - 97};
      for (int f = 0; f < 6; f++) House.file(x, "f" + f, 32 * blocks[f], 0);
      House.due("in SLOW", x.told(2), 140);
      x.step(100);
      for (int f = 5; f <= 8; f++) x.read(f, 0);
      House.write(x, 8, 32 * blocks[5], 32, 0);
      x.sync();
      x.step(200);
      // 141, less 32, less 9 or 8; at 101 one more of 32 goes.
      House.due("what is left of 141", x.told(2) * 10 + x.told(12), left == 100 ? 1000 : 690);
    }
  }

  private static void oneThing() {
    House.sentence("T6: at most one thing a STEP; both modes are looked at ahead of what it does");
    StubHouse x = House.sinking();
    House.file(x, "a", 32, 0);
    House.file(x, "b", 32, 0);
    x.step(1);
    House.due("moved", x.told(1) * 1000 + x.told(2) * 100 + x.told(11) * 10 + x.told(12), 1110);
    x.step(1);
    House.due("moved, though SLOW MODE is on, too", x.told(1) * 1000 + x.told(2) * 100 + x.told(11) * 10 + x.told(12), 211);
    House.due("none waits", x.told(7), 0);
    x.step(1);
    House.due("one waits", x.told(7) * 100 + x.told(11) * 10 + x.told(12), 101);
    House.stepsUntil(x, y -> y.about(1, 10) == 3);
    House.due("one is RELEASED", x.about(2, 10), 1);
    StubHouse y = House.sinking();
    House.file(y, "a", 32, 0);
    House.file(y, "b", 32, 0);
    y.step(60);
    House.calm(y);
    y.read(1, 0);
    y.read(2, 0);
    y.step(40);
    y.marks(0, 0, 0);
    y.step(2);
    House.due("both are in SLOW with their COPIES", y.about(1, 10) * 100 + y.about(2, 10) * 10 + y.told(2), 222);
    y.marks(1, 0, 0);
    y.step(1);
    House.due("the first one", y.about(1, 10) * 10 + y.about(2, 10), 32);
    y.step(1);
    House.due("then the second one", y.about(1, 10) * 10 + y.about(2, 10), 33);
  }

  private static void releasedIsOneThing() {
    House.sentence("T6: at most one thing a STEP: what is RELEASED, and what comes to wait");
    StubHouse x = House.sinkingFile();
    x.step(8);
    House.calm(x);
    x.read(1, 0);
    House.stepsUntil(x, y -> y.about(1, 10) == 2);
    House.file(x, "b", 96, 0);
    x.marks(0, 0, 0);
    x.step(5);
    House.due("both are in SLOW, none waits", x.told(2) * 10 + x.told(7), 50);
    x.marks(1, 0, 0);
    x.step(1);
    House.due("one is RELEASED, none waits", x.about(1, 10) * 10 + x.told(7), 30);
    x.step(1);
    House.due("one waits", x.told(7), 1);
  }

  private static void noneFreeInSlow() {
    House.sentence("T6: in FAST MODE, if a BLOCK of SLOW is FREE; otherwise, in SLOW MODE");
    StubHouse x = House.full();
    x.marks(1, 160, 160);
    x.step(3);
    House.due("nothing is done", x.told(11) * 1000 + x.told(1) + x.told(7), 1048);
    x.marks(1, 159, 100);
    x.step(1);
    House.due("SLOW MODE: one waits", x.told(11) * 100 + x.told(12) * 10 + x.told(7), 111);
    StubHouse y = House.full();
    y.cut(7, 480);
    y.step(1);
    House.due("a HELD one is not FREE", y.told(1) * 100 + y.told(7), 4801);
    y.sync();
    y.step(1);
    House.due("it is FREE: moved", y.told(1) * 100 + y.told(2), 4860);
    House.due("to that one", y.block(1, 0), 1159);
  }

  private static void firstBlock() {
    House.sentence("T6: its first such BLOCK is moved to the least FREE one of SLOW");
    StubHouse x = new StubHouse();
    House.file(x, "a", 96, 0);
    x.marks(0, 0, 0);
    x.step(1);
    House.due("BLOCK 0", x.block(1, 0), 1000);
    x.sync();
    House.write(x, 1, 0, 32, 7);
    x.sync();
    House.due("written anew in FAST", x.block(1, 0), 0);
    x.step(1);
    House.due("BLOCK 0 again, to the least one", x.block(1, 0) * 10000 + x.block(1, 1) * 100 + x.block(1, 2), 10000102);
    x.step(1);
    House.due("BLOCK 1, to the next one", x.block(1, 1), 1001);
    for (int p = 0; p < 96; p++) House.due("byte " + p, x.read(1, p), p < 32 ? p + 7 : p);
  }

  private static void released() {
    House.sentence("T6: of the files with BLOCKS in SLOW, by RANK: the first that has its COPIES is RELEASED: it is a STUB");
    StubHouse x = House.sinking();
    House.file(x, "a", 40, 0);
    x.step(8);
    House.calm(x);
    x.read(1, 0);
    House.stepsUntil(x, y -> y.about(1, 10) == 2);
    House.due("RECALLED into FAST with its COPY", x.about(1, 8), 2);
    House.file(x, "b", 96, 0);
    x.marks(0, 0, 0);
    x.step(3);
    House.due("the greater one is in SLOW", x.about(2, 9) * 10 + x.about(1, 9), 30);
    x.marks(0, 48, 48);
    x.marks(1, 0, 0);
    x.step(1);
    House.due("what is in FAST alone is not looked at: b waits", x.about(1, 10) * 10 + x.told(7), 21);
    x.marks(0, 1, 1);
    x.step(1);
    House.due("a BLOCK of it is moved", x.about(1, 8) * 10 + x.about(1, 9), 11);
    x.marks(0, 48, 48);
    x.step(1);
    House.due("RELEASED from both, ahead of b, which has no COPY", x.about(1, 10) * 100 + x.told(1) * 10 + x.about(2, 10), 301);
  }

  private static void needed() {
    House.sentence("T6: as many as are needed that they have together as many BLOCKS in SLOW as are above LOW");
    // LOW of six BLOCKS of three files; how many wait
    int[][] rows = {{5, 1}, {4, 1}, {3, 2}, {2, 2}, {1, 3}, {0, 3}};
    for (int[] r : rows) {
      StubHouse x = new StubHouse();
      x.copies(2);
      x.marks(0, 0, 0);
      x.marks(1, 5, r[0]);
      for (int f = 0; f < 3; f++) House.file(x, "f" + f, 64, 0);
      x.step(6);
      int most = 0;
      for (int i = 0; i < 30; i++) {
        x.step(1);
        most = Math.max(most, x.told(7));
      }
      House.due("that wait, LOW is " + r[0], most, r[1]);
    }
    House.sentence("T6: only their BLOCKS in SLOW count");
    StubHouse x = new StubHouse();
    x.marks(0, 2, 2);
    x.marks(1, 2, 0);
    House.file(x, "a", 96, 0);
    House.file(x, "b", 64, 0);
    x.step(3);
    House.due("three of a in SLOW", x.about(1, 9) * 10 + x.about(2, 9), 30);
    x.marks(0, 0, 0);
    x.step(1);
    x.marks(0, 48, 48);
    x.marks(1, 2, 1);
    House.due("one of b", x.about(2, 9), 1);
    x.step(3);
    House.due("three above LOW: a is enough", x.told(7), 1);
    x.marks(1, 2, 0);
    x.step(1);
    House.due("four above LOW: b, too", x.told(7), 2);
  }

  private static void twenty() {
    House.sentence("T6: the first that does not wait comes behind those that wait to be written (20 at most)");
    for (int files = 19; files <= 22; files++) {
      StubHouse x = House.sinking();
      x.copies(2);
      // The WRITER is busy with the greatest one all the time.
      for (int f = 1; f <= files; f++) House.file(x, "f" + f, f == 1 ? 1024 : 1, 0);
      int most = 0;
      for (int i = 0; i < 32 + 2 * files + 10; i++) {
        x.step(1);
        most = Math.max(most, x.told(7));
      }
      House.due("that wait of " + files, most, Math.min(files, 20));
    }
    House.sentence("T6: one that waits goes, another one comes");
    StubHouse x = House.sinking();
    for (int f = 1; f <= 30; f++) House.file(x, "f" + f, 1, 0);
    x.copies(2);
    House.stepsUntil(x, y -> y.told(7) == 20);
    x.copies(1);
    x.step(200);
    int stubs = 0;
    for (int f = 1; f <= 30; f++) if (x.about(f, 10) == 3) stubs++;
    House.due("all are STUBS at last", stubs * 10 + x.told(7), 300);
  }

  private static void lost() {
    House.sentence("T6, T7: when LOST nothing is done, and behind a rebuild the modes are looked at anew");
    StubHouse x = House.sinkingFile();
    x.step(5);
    x.lose();
    x.step(3);
    House.due("nothing waits", x.told(7) + x.told(11) + x.told(12), 0);
    x.rebuild();
    x.step(1);
    House.due("nothing is there", x.told(7) + x.told(11) + x.told(12), 0);
    House.due("marks stay", x.marks(0, 40, 30) + x.marks(1, 140, 100), 0);
    House.due("no tape is being RECLAIMED", x.told(13), NONE);
  }

  public static void main(String[] args) {
    ranks();
    fastMode();
    slowMode();
    slowLow();
    oneThing();
    releasedIsOneThing();
    noneFreeInSlow();
    firstBlock();
    released();
    needed();
    twenty();
    lost();
    House.end();
  }
}
