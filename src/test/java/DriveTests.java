/** Promises 14, 21 to 24: COPIES, steps, RECLAIMING, drives, what is told. */
public final class DriveTests {
  private static int wrong = 0;

  private static void due(int promise, String call, long got, long want) {
    if (got == want) return;
    wrong++;
    System.out.println("promise " + promise + ": " + call + " answered " + got + ", due is " + want);
  }

  private static int write(StubHouse x, int file, int place, int count, int v) {
    int size = 0;
    for (int done = 0; done < count; done += 256) {
      x.fill(Math.min(256, count - done), v + done);
      size = x.write(file, place + done);
    }
    return size;
  }

  /** Everything sinks at once, and is to be a STUB. */
  private static StubHouse sinking() {
    StubHouse x = new StubHouse();
    x.marks(0, 0, 0);
    x.marks(1, 0, 0);
    return x;
  }

  /** A file (1) of 40 bytes, not yet stepped. */
  private static StubHouse oneFile() {
    StubHouse x = sinking();
    x.make(0, 'a', false);
    write(x, 1, 0, 40, 100);
    return x;
  }

  private static void drives(StubHouse x, int promise, int time, String want) {
    StringBuilder got = new StringBuilder();
    for (int d = 0; d < 2; d++) {
      for (int i = 0; i < 4; i++) got.append(x.drive(d, i)).append(i < 3 ? "," : d == 0 ? " " : "");
    }
    due(promise, "TIME", x.told(0), time);
    if (got.toString().equals(want)) return;
    wrong++;
    System.out.println("promise " + promise + ": drives at " + time + " are " + got + ", due is " + want);
  }

  private static void recallStepByStep() {
    StubHouse x = oneFile();
    String[] want = {
      "-2,0,0,0 -2,0,0,0", "-2,0,0,0 -2,0,0,0", "-2,0,0,0 -2,0,0,0",
      "0,0,1,2 -2,0,0,0", "0,0,1,1 -2,0,0,0", "0,0,0,0 -2,0,0,0",
      "0,0,5,1 -2,0,0,0", "0,81,0,0 -2,0,0,0",
      "0,81,2,1 -2,0,0,0", "-2,0,0,0 -2,0,0,0",
      "-2,0,0,0 0,0,1,2", "-2,0,0,0 0,0,1,1", "-2,0,0,0 0,0,0,0",
      "-2,0,0,0 0,8,0,0", "-2,0,0,0 0,8,4,1", "-2,0,0,0 0,73,0,0",
      "-2,0,0,0 0,73,2,1", "-2,0,0,0 -2,0,0,0"};
    for (int i = 0; i < want.length; i++) {
      if (i == 8) due(23, "a RECALL", x.read(1, 5), StubHouse.RECALLING);
      due(21, "step(1)", x.step(1), 0);
      drives(x, 23, i + 1, want[i]);
      if (i == 0) due(21, "the first BLOCK is moved", x.block(1, 0) * 100 + x.block(1, 1), 100001);
      if (i == 1) due(21, "the second one", x.block(1, 1), 1001);
      if (i == 2) due(21, "it waits to be written", x.told(7), 1);
      if (i == 6) due(21, "a STAMP is given, nothing is written", x.told(17) * 10 + x.tape(0, 0), 20);
      if (i == 7) due(21, "a STUB", x.about(1, 10) * 10 + x.told(3), 34);
      if (i == 8) due(21, "it waits no more", x.told(7), 0);
      if (i == 15) due(21, "RECALLED, moved at once", x.block(1, 0) * 10000 + x.block(1, 1), 1002 * 10000 + 3);
      if (i == 15) due(21, "TOUCH", x.about(1, 6), 16);
      if (i == 17) due(21, "RELEASED again", x.about(1, 10), 3);
    }
    due(21, "RECORDS", x.told(9) * 1000 + x.told(10), 10 * 1000 + 66 + 16 + 8 + 8 + 6);
    for (int n : new int[] {0, -1, 501, Integer.MIN_VALUE}) due(21, "step(" + n + ")", x.step(n), StubHouse.BAD);
    due(21, "BAD does none", x.told(0), 18);
    due(21, "step(500)", x.step(500), 0);
    due(21, "TIME", x.told(0), 518);
    x.lose();
    due(21, "LOST", x.step(500) * 10000 + x.told(0), 1018);
    due(21, "BAD when LOST", x.step(0), StubHouse.BAD);
  }

  private static void driveWrong() {
    StubHouse x = new StubHouse();
    for (int d : new int[] {-1, 2, Integer.MAX_VALUE}) due(23, "drive(" + d + ", 0)", x.drive(d, 0), StubHouse.BAD);
    for (int i : new int[] {-1, 4, Integer.MIN_VALUE}) for (int d = 0; d < 2; d++) due(23, "drive(" + d + ", " + i + ")", x.drive(d, i), StubHouse.BAD);
    x.lose();
    due(23, "empty when LOST", x.drive(0, 0) * 10 + x.drive(1, 0), -22);
  }

  private static void copy() {
    StubHouse x = oneFile();
    x.make(0, 'd', true);
    due(14, "none yet", x.copy(1, 0, 0), StubHouse.NONE);
    x.copies(2);
    x.step(60);
    due(14, "tapes", x.copy(1, 0, 0) * 10 + x.copy(1, 1, 0), 1);
    due(14, "places", x.copy(1, 0, 1) * 10 + x.copy(1, 1, 1), 88);
    for (int f : new int[] {0, 2, 3, -1, 60}) due(14, "no FILE " + f, x.copy(f, 0, 0), StubHouse.BAD);
    for (int i : new int[] {-1, 2}) due(14, "copy(1, " + i + ", 0)", x.copy(1, i, 0), StubHouse.BAD);
    for (int i : new int[] {-1, 2}) due(14, "copy(1, 0, " + i + ")", x.copy(1, 0, i), StubHouse.BAD);
    x.cut(1, 0);
    due(14, "a cut leaves none", x.copy(1, 0, 0) * 10 + x.copy(1, 1, 1), -22);
    due(14, "BAD ahead of NONE", x.copy(1, 2, 1), StubHouse.BAD);
    write(x, 1, 0, 40, 0);
    x.copies(1);
    x.step(60);
    due(14, "noted again", x.about(1, 7), 1);
    due(14, "none such", x.copy(1, 1, 0), StubHouse.NONE);
    x.lose();
    due(14, "LOST ahead of BAD", x.copy(-1, 0, 0), StubHouse.LOST);
  }

  private static void copyOfAnotherVersion() {
    StubHouse x = oneFile();
    x.step(7);
    due(14, "being written", x.drive(0, 2), 5);
    write(x, 1, 0, 40, 7);
    x.step(1);
    due(14, "the SEGMENT is on the tape", x.tape(0, 0), 81);
    due(14, "it is not noted", x.about(1, 7), 0);
    x.step(40);
    due(14, "the new one is", x.copy(1, 0, 1), 81);
  }

  private static void reclaim() {
    StubHouse x = oneFile();
    for (int t : new int[] {-1, 6, Integer.MIN_VALUE}) due(22, "reclaim(" + t + ")", x.reclaim(t), StubHouse.BAD);
    due(22, "BLANK", x.reclaim(0), StubHouse.STATE);
    x.step(8);
    due(22, "reclaim(0)", x.reclaim(0), 0);
    due(22, "one is being so", x.reclaim(0), StubHouse.STATE);
    due(22, "BAD ahead of STATE", x.reclaim(6), StubHouse.BAD);
    String[] want = {
      "0,81,2,1 -2,0,0,0", "-2,0,0,0 -2,0,0,0",
      "-2,0,0,0 0,0,1,2", "-2,0,0,0 0,0,1,1", "-2,0,0,0 0,0,0,0",
      "-2,0,0,0 0,8,0,0", "-2,0,0,0 0,8,4,1", "1,0,1,2 0,73,0,0",
      "1,0,1,1 0,73,0,0", "1,0,0,0 0,73,0,0", "1,0,5,1 0,73,0,0", "1,81,0,0 0,73,0,0",
      "1,81,0,0 0,0,0,0", "1,81,0,0 0,0,2,1", "1,81,0,0 -2,0,0,0"};
    for (int i = 0; i < want.length; i++) {
      x.step(1);
      drives(x, 22, i + 9, want[i]);
      if (i == 10) due(22, "its COPY is there still", x.copy(1, 0, 0), 0);
      if (i == 11) due(22, "its COPY is elsewhere", x.copy(1, 0, 0) * 10 + x.copy(1, 0, 1), 18);
      if (i == 11) due(22, "RECORDS", x.told(10), 66 + 12);
      if (i == 11) due(22, "still RECLAIMED", x.told(13), 0);
      if (i == 12) due(22, "BLANKED", x.tape(0, 0) * 10 + x.tape(0, 1), 1);
      if (i == 12) due(22, "a SYNC", x.told(9) * 10 + x.told(3), 0);
      if (i == 12) due(22, "none RECLAIMED", x.told(13), StubHouse.NONE);
    }
    due(22, "STAMP is kept", x.segment(1, 0, 4) * 10 + x.told(17), 12);
    due(22, "LIVE", x.tape(1, 4), 1);
    x.lose();
    due(22, "LOST ahead of BAD", x.reclaim(-1), StubHouse.LOST);
  }

  private static void reclaimOfSpoiled() {
    StubHouse x = oneFile();
    x.step(8);
    x.spoil(0, 8 + 29, 2);
    x.reclaim(0);
    x.step(6);
    due(22, "BLANKED at once", x.tape(0, 0) * 10 + x.tape(0, 1), 1);
    due(22, "its COPY goes", x.about(1, 7) * 10 + x.about(1, 10), 4);
    due(22, "a RECORD behind the SYNC", x.told(9) * 100 + x.told(10), 112);
    due(22, "that has not happened", x.crash(11), 0);
    due(22, "a COPY on a BLANK tape", x.about(1, 10) * 10 + x.copy(1, 0, 0), 30);
    due(22, "it is asked for", x.read(1, 0), StubHouse.RECALLING);
    x.step(6);
    due(22, "being read", x.drive(1, 2) * 10 + x.told(6), 0 * 10 + 0);
    due(22, "none FITS there", x.about(1, 10), 4);
  }

  /** What was overwritten is not LIVE; a DELETE is, while another tape has what it deletes. */
  private static void reclaimOfDeletes() {
    StubHouse x = oneFile();
    x.copies(2);
    x.step(60);
    due(22, "on two tapes", x.tape(0, 2) * 10 + x.tape(1, 2), 11);
    x.remove(1);
    due(24, "a DELETE waits", x.told(8), 1);
    x.sync();
    x.step(20);
    due(22, "it is behind the WRITER's end", x.tape(1, 2) * 100 + x.segment(1, 1, 1) * 10 + x.segment(1, 1, 8), 221);
    due(22, "the files are not LIVE", x.segment(0, 0, 8) * 10 + x.segment(1, 0, 8), 0);
    x.reclaim(1);
    x.step(60);
    due(22, "the DELETE was saved", x.tape(1, 0) * 1000 + x.tape(0, 2) * 10 + x.segment(0, 1, 1), 22);
    due(22, "no other tape has its ID now", x.segment(0, 1, 8), 0);
    x.reclaim(0);
    x.step(60);
    due(22, "nothing was LIVE", x.tape(0, 0) * 10 + x.tape(0, 1), 1);
    due(22, "all are BLANK", x.tape(1, 0) + x.tape(2, 0) + x.tape(3, 0), 0);
  }

  private static void ranks() {
    StubHouse x = new StubHouse();
    for (int f = 1; f <= 3; f++) x.make(0, 'a' + f, false);
    write(x, 1, 0, 32, 0);
    write(x, 2, 0, 64, 0);
    write(x, 3, 0, 64, 0);
    x.marks(0, 0, 0);
    x.step(1);
    due(21, "four for each BLOCK; the lesser node", x.about(2, 9) * 10 + x.about(3, 9), 10);
    x.step(1);
    due(21, "BLOCKS in both stores count", x.about(2, 9) * 10 + x.about(3, 9), 20);
    x.read(3, 0);
    x.step(1);
    due(21, "3 was read at 2: 1 and 8; 1: 3 and 4", x.about(1, 9) * 10 + x.about(3, 9), 1);
  }

  private static void ranksByTime() {
    StubHouse x = new StubHouse();
    x.make(0, 'a', false);
    x.make(0, 'b', false);
    write(x, 1, 0, 32, 0);
    write(x, 2, 0, 96, 0);
    x.step(9);
    x.read(2, 0);
    x.marks(0, 0, 0);
    x.step(1);
    due(21, "10 and 4 against 1 and 12", x.about(1, 9) * 10 + x.about(2, 9), 10);
  }

  private static void filesThatAreNeeded() {
    StubHouse x = new StubHouse();
    x.marks(0, 0, 0);
    x.marks(1, 5, 2);
    for (int f = 1; f <= 3; f++) {
      x.make(0, 'a' + f, false);
      write(x, f, 0, 64, 0);
    }
    x.step(6);
    due(24, "SLOW MODE is seen in the next STEP", x.told(2) * 10 + x.told(12), 60);
    x.step(4);
    due(21, "two have as many BLOCKS as are above LOW", x.told(7) * 10 + x.told(12), 21);
    x.step(100);
    due(21, "two are STUBS", x.about(1, 10) * 100 + x.about(2, 10) * 10 + x.about(3, 10), 331);
    due(24, "off", x.told(12) * 10 + x.told(2), 2);
  }

  private static void twentyWait() {
    StubHouse x = sinking();
    x.copies(2);
    for (int f = 1; f <= 30; f++) {
      x.make(0, 'a' | (long) ('a' + f % 26) << 8 | (long) ('a' + f / 26) << 16, false);
      write(x, f, 0, 1, f);
    }
    int most = 0;
    for (int i = 0; i < 90; i++) {
      x.step(1);
      most = Math.max(most, x.told(7));
    }
    due(21, "20 at most", most, 20);
    due(24, "20 wait", x.told(7), 20);
    x.lose();
    due(24, "none when LOST", x.told(7), 0);
  }

  private static void fortyDeletes() {
    StubHouse x = sinking();
    for (int f = 1; f <= 45; f++) {
      x.make(0, 'a' | (long) ('a' + f % 26) << 8 | (long) ('a' + f / 26) << 16, false);
      write(x, f, 0, 1, f);
    }
    x.step(400);
    due(24, "all on tape", x.tape(0, 2), 45);
    x.sync();
    for (int f = 1; f <= 45; f++) x.remove(f);
    due(24, "40 at most", x.told(8), 40);
    x.sync();
    x.step(400);
    due(24, "written", x.told(8) * 100 + x.tape(0, 2), 85);
    for (int i = 0; i < 40; i++) due(24, "by rising IDs", x.segment(0, 45 + i, 2), i + 1);
    due(24, "RECORDS of them", x.told(9) * 1000 + x.told(10), 40240);
  }

  private static void stubThatWaits() {
    StubHouse x = oneFile();
    x.copies(2);
    x.step(9);
    due(21, "one COPY, unmounting", x.about(1, 7) * 10 + x.drive(0, 2), 12);
    x.copies(1);
    x.step(1);
    due(21, "RELEASED", x.about(1, 10) * 10 + x.told(7), 31);
    x.copies(2);
    x.step(1);
    due(21, "a STUB does not wait", x.told(7) * 10 + x.drive(0, 2), 0);
  }

  private static void deleteOfWhatIsWritten() {
    StubHouse x = oneFile();
    x.step(7);
    due(24, "being written", x.drive(0, 2) * 10 + x.tape(0, 2), 50);
    x.remove(1);
    due(24, "a DELETE waits", x.told(8), 1);
    StubHouse y = oneFile();
    y.step(6);
    y.remove(1);
    due(24, "none: nothing was begun", y.told(8), 0);
  }

  private static void roomInOneStore() {
    StubHouse x = sinking();
    x.make(0, 'a', false);
    write(x, 1, 0, 1024, 1);
    x.step(100);
    due(21, "a STUB of 32 BLOCKS", x.about(1, 10), 3);
    x.marks(0, 48, 48);
    x.marks(1, 160, 160);
    x.sync();
    for (int f = 2; f <= 8; f++) {
      x.make(0, 'a' + f, false);
      write(x, f, 0, f == 3 ? 512 : f == 8 ? 384 : 1024, f);
      x.sync();
    }
    x.remove(3);
    x.cut(2, 28 * 32);
    x.sync();
    due(24, "20 FREE in each store", x.told(4) * 100 + x.told(5), 2020);
    x.read(1, 0);
    x.step(30);
    due(21, "no room: it does not count", x.told(6) * 10 + x.drive(1, 0), 10 + StubHouse.NONE);
    x.cut(2, 16 * 32);
    due(21, "HELD ones are no room", x.step(10) + x.drive(1, 0), StubHouse.NONE);
    x.sync();
    x.step(40);
    due(21, "RECALLED into FAST", x.about(1, 8) * 100 + x.about(1, 9), 3200);
  }

  private static void recallsByPlaces() {
    StubHouse x = sinking();
    for (int f = 1; f <= 3; f++) {
      x.make(0, 'a' + f, false);
      write(x, f, 0, 64, f * 10);
    }
    x.step(100);
    due(23, "places", x.copy(1, 0, 1) * 1000000 + x.copy(2, 0, 1) * 1000 + x.copy(3, 0, 1), 8105202);
    x.marks(0, 48, 48);
    x.marks(1, 160, 160);
    x.read(3, 0);
    x.read(1, 0);
    x.read(2, 0);
    x.step(5);
    due(23, "mounted", x.drive(1, 0) * 10 + x.drive(1, 2), 0);
    x.step(3);
    due(23, "the least place first", x.told(6) * 10 + x.about(1, 10), 22);
    x.step(3);
    due(23, "then the next one", x.told(6) * 10 + x.about(2, 10), 12);
    due(23, "HEAD", x.drive(1, 1), 105 + 25 + 64);
    x.step(3);
    due(23, "the last one", x.told(6) * 10 + x.about(3, 10), 2);
  }

  private static void told() {
    StubHouse x = oneFile();
    x.make(0, 'b', false);
    x.fill(5, 0);
    x.step(2);
    int[] want = {2, 0, 2, 2, 46, 158, 0, 0, 0, 5, 64, 1, 1, StubHouse.NONE, 0, 5, 3, 1, 3, 4};
    for (int i = 0; i < want.length; i++) due(24, "told(" + i + ")", x.told(i), want[i]);
    for (int i : new int[] {-1, 20, Integer.MIN_VALUE, Integer.MAX_VALUE}) due(24, "told(" + i + ")", x.told(i), StubHouse.BAD);
    x.step(6);
    x.read(1, 0);
    x.reclaim(0);
    due(24, "a RECALL, a tape that is being RECLAIMED, STAMP", x.told(6) * 100 + x.told(13) * 10 + x.told(17), 102);
    x.lose();
    int[] lost = {8, 0, 0, 0, 0, 0, 0, 0, 0, 0, 0, 0, 0, StubHouse.NONE, 1, 5, 3, 2, 0, 4};
    for (int i = 0; i < lost.length; i++) due(24, "LOST: told(" + i + ")", x.told(i), lost[i]);
    due(24, "LOST: told(20)", x.told(20), StubHouse.BAD);
  }

  public static void main(String[] args) {
    recallStepByStep();
    driveWrong();
    copy();
    copyOfAnotherVersion();
    reclaim();
    reclaimOfSpoiled();
    reclaimOfDeletes();
    ranks();
    ranksByTime();
    filesThatAreNeeded();
    twentyWait();
    fortyDeletes();
    stubThatWaits();
    deleteOfWhatIsWritten();
    roomInOneStore();
    recallsByPlaces();
    told();
    if (wrong > 0) System.exit(1);
  }
}
