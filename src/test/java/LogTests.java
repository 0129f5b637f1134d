/** Promises 15 to 20: settings, SYNC, crashes, losses. */
public final class LogTests {
  private static int wrong = 0;

  private static void due(int promise, String call, long got, long want) {
    if (got == want) return;
    wrong++;
    System.out.println("promise " + promise + ": " + call + " answered " + got + ", due is " + want);
  }

  private static int write(StubHouse x, int file, int place, int count, int v) {
    int size = 0;
    for (int done = 0; done < count; done += 256) {
      x.fill(Math.min(256, count - done), v + done);
      size = x.write(file, place + done);
    }
    return size;
  }

  /** Files a (1) of 40 bytes and b (2) of 20 become STUBS with a COPY each on tape 0. */
  private static StubHouse twoStubs() {
    StubHouse x = new StubHouse();
    x.marks(0, 0, 0);
    x.marks(1, 0, 0);
    x.make(0, 'a', false);
    x.make(0, 'b', false);
    write(x, 1, 0, 40, 100);
    write(x, 2, 0, 20, 10);
    x.step(40);
    return x;
  }

  private static void marks() {
    StubHouse x = new StubHouse();
    due(15, "FAST at first", x.marks(0, 48, 48), 40);
    due(15, "SLOW at first", x.marks(1, 160, 0), 140);
    due(15, "as it was", x.marks(0, 0, 0), 48);
    due(15, "as it was", x.marks(1, 5, 5), 160);
    for (int s : new int[] {-1, 2, Integer.MIN_VALUE}) due(15, "store " + s, x.marks(s, 10, 5), StubHouse.BAD);
    int[][] none = {{0, 49, 1}, {1, 161, 1}, {0, -1, -1}, {0, 5, -1}, {0, 5, 6}, {1, 0, 1}, {1, -1, -2}};
    for (int[] m : none) due(15, "marks(" + m[0] + ", " + m[1] + ", " + m[2] + ")", x.marks(m[0], m[1], m[2]), StubHouse.BAD);
    due(15, "BAD changes nothing", x.marks(0, 2, 1) * 100 + x.marks(1, 100, 1), 5);
    x.make(0, 'a', false);
    write(x, 1, 0, 64, 0);
    x.step(1);
    due(15, "no more than HIGH", x.told(11), 0);
    write(x, 1, 64, 1, 0);
    x.step(1);
    due(15, "more than HIGH", x.told(11) * 100 + x.told(1) * 10 + x.told(2), 121);
    x.step(1);
    due(15, "between them it stays", x.told(11) * 100 + x.told(1) * 10 + x.told(2), 112);
    x.step(1);
    due(15, "no more than LOW", x.told(11) * 100 + x.told(1) * 10 + x.told(2), 12);
    x.lose();
    due(15, "never LOST", x.marks(0, 40, 30), 2);
  }

  private static void copies() {
    StubHouse x = twoStubs();
    for (int n : new int[] {0, 3, -1, Integer.MAX_VALUE}) due(16, "copies(" + n + ")", x.copies(n), StubHouse.BAD);
    due(16, "at first", x.copies(2), 1);
    due(16, "as it was", x.copies(2), 2);
    x.make(0, 'c', false);
    write(x, 3, 0, 10, 0);
    x.step(60);
    due(16, "two COPIES", x.about(3, 7), 2);
    due(16, "on unlike tapes", x.copy(3, 0, 0) * 10 + x.copy(3, 1, 0), 1);
    due(16, "a STUB then", x.about(3, 10), 3);
    due(16, "those that are STUBS get no more", x.about(1, 7), 1);
    due(16, "back", x.copies(1), 2);
    x.lose();
    due(16, "never LOST", x.copies(2), 1);
  }

  private static void sync() {
    StubHouse x = new StubHouse();
    due(17, "nothing", x.sync(), 0);
    x.make(0, 'a', false);
    write(x, 1, 0, 40, 0);
    write(x, 1, 0, 40, 1);
    due(17, "HELD", x.told(3), 2);
    due(17, "RECORDS", x.sync(), 3);
    due(17, "FREE", x.told(3) * 100 + x.told(4), 46);
    due(17, "none left", x.told(9) * 100 + x.told(10), 0);
    due(17, "KEPT", x.crash(0), 0);
    due(17, "it is there", x.read(1, 0), 1);
    x.lose();
    due(17, "LOST", x.sync(), StubHouse.LOST);
  }

  private static void syncOfItself() {
    StubHouse x = new StubHouse();
    x.make(0, 'a', false);
    x.fill(32, 7);
    x.write(1, 0);
    for (int i = 0; i < 198; i++) x.move(1, 0, 'a' + i % 2);
    due(17, "200 RECORDS", x.told(9), 200);
    due(17, "a refusal does no SYNC", x.move(1, 0, 'Z'), StubHouse.BAD);
    due(17, "still 200", x.told(9), 200);
    x.fill(32, 8);
    due(17, "one more", x.write(1, 0), 32);
    due(17, "the others are KEPT", x.told(9) * 100 + x.told(10), 112);
    due(17, "its own HELD one is not FREE", x.told(3), 1);
    due(17, "the crash leaves what is KEPT", x.crash(11), 0);
    due(17, "as it was", x.read(1, 0), 7);
  }

  private static void syncAheadOfBlocks() {
    StubHouse x = new StubHouse();
    x.make(0, 'a', false);
    x.fill(32, 7);
    x.write(1, 0);
    x.fill(32, 8);
    x.write(1, 0);
    for (int i = 0; i < 197; i++) x.move(1, 0, 'a' + i % 2);
    due(17, "200 RECORDS, one HELD", x.told(9) * 10 + x.told(3), 2001);
    x.fill(32, 9);
    x.write(1, 0);
    due(17, "BLOCKS are given after the SYNC", x.block(1, 0), 0);
  }

  private static void crash() {
    for (int n = 0; n < 100; n++) {
      StubHouse x = new StubHouse();
      x.make(0, 'a', false);
      write(x, 1, 0, 40, 0);
      x.sync();
      x.step(3);
      x.make(0, 'b', true);
      write(x, 1, 39, 10, 90);
      x.move(1, 2, 'c');
      x.cut(1, 33);
      x.remove(1);
      due(18, "bytes", x.told(10), 16 + 16 + 16 + 16 + 6);
      int k = n < 16 ? 0 : n < 32 ? 1 : n < 48 ? 2 : n < 64 ? 3 : n < 70 ? 4 : 5;
      due(18, "crash(" + n + ")", x.crash(n), k);
      due(18, "make", x.about(2, 0), k >= 1 ? 1 : 0);
      due(18, "SIZE", x.about(1, 4), k < 2 ? 40 : k < 4 ? 49 : k < 5 ? 33 : StubHouse.BAD);
      due(18, "byte 39", x.read(1, 39), k < 2 ? 39 : k < 4 ? 90 : StubHouse.BAD);
      due(18, "byte 32", x.read(1, 32), k < 5 ? 32 : StubHouse.BAD);
      due(18, "OVER", x.about(1, 1), k < 3 ? 0 : k < 5 ? 2 : StubHouse.BAD);
      due(18, "TOUCH", x.about(1, 6), k < 5 ? 3 : StubHouse.BAD);
      due(18, "VERSION", x.about(1, 5), k < 2 ? 2 : k < 4 ? 3 : k < 5 ? 4 : StubHouse.BAD);
      due(18, "HELD", x.told(3) * 100 + x.told(9), 0);
      due(18, "FREE", x.told(4), k < 5 ? 46 : 48);
      due(18, "numbers go on", x.told(16) * 10 + x.told(19), 25);
      due(18, "KEPT", x.crash(0), 0);
      due(18, "all the same", x.about(2, 0), k >= 1 ? 1 : 0);
    }
  }

  private static void crashOfDrives() {
    StubHouse x = twoStubs();
    x.make(0, 'c', false);
    write(x, 3, 0, 10, 0);
    x.sync();
    x.read(1, 0);
    x.step(2);
    x.reclaim(0);
    x.fill(3, 0);
    due(18, "BAD", x.crash(-1), StubHouse.BAD);
    due(18, "it waits still", x.told(6), 1);
    due(18, "a tape is being RECLAIMED", x.told(13), 0);
    x.crash(0);
    for (int d = 0; d < 2; d++) due(18, "drive " + d, x.drive(d, 0) * 1000 + x.drive(d, 1) + x.drive(d, 2) + x.drive(d, 3), -2000);
    due(18, "nothing waits", x.told(6) + x.told(7), 0);
    due(18, "none RECLAIMED", x.told(13), StubHouse.NONE);
    due(18, "modes", x.told(11) + x.told(12), 0);
    due(18, "what is at hand stays", x.told(15), 3);
    due(18, "tapes are as they are", x.tape(0, 2), 2);
    x.lose();
    due(18, "LOST", x.crash(0), StubHouse.LOST);
  }

  private static void crashOfStubs() {
    StubHouse x = new StubHouse();
    x.marks(0, 0, 0);
    x.marks(1, 0, 0);
    x.make(0, 'a', false);
    write(x, 1, 0, 40, 100);
    x.step(8);
    due(18, "moved, moved, a COPY noted, RELEASED", x.told(9) * 1000 + x.told(10), 6000 + 16 + 16 + 8 + 8 + 12 + 6);
    due(18, "without the last one", x.crash(65), 5);
    due(18, "in stores with its COPY", x.about(1, 10), 2);
    due(18, "its bytes", x.read(1, 39), 139);
    due(18, "its BLOCKS", x.block(1, 0) * 10000 + x.block(1, 1), 1000 * 10000 + 1001);
    StubHouse y = new StubHouse();
    y.marks(0, 0, 0);
    y.marks(1, 0, 0);
    y.make(0, 'a', false);
    write(y, 1, 0, 40, 100);
    y.step(8);
    due(18, "without the COPY", y.crash(59), 4);
    due(18, "in stores without it", y.about(1, 10), 1);
    due(18, "the SEGMENT is on the tape", y.tape(0, 2) * 10 + y.tape(0, 4), 11);
    due(18, "STAMPS go on", y.told(17), 2);
  }

  private static void deletesAndCrash() {
    StubHouse x = twoStubs();
    x.sync();
    x.remove(1);
    due(18, "a DELETE waits", x.told(8), 1);
    x.step(30);
    due(18, "it is not begun: the remove is not KEPT", x.told(8) * 10 + x.tape(0, 2), 12);
    due(18, "the remove has not happened", x.crash(5), 0);
    due(18, "nor waits it", x.told(8), 0);
    x.remove(1);
    due(18, "the remove has happened", x.crash(6), 1);
    due(18, "it waits", x.told(8), 1);
    x.step(20);
    due(18, "it is written", x.told(8) * 10 + x.tape(0, 2), 3);
    due(18, "its RECORD", x.told(9) * 10 + x.told(10), 16);
    due(18, "that has not happened", x.crash(5), 0);
    due(18, "it waits again", x.told(8), 1);
    x.step(20);
    due(18, "it is written again", x.told(8) * 10 + x.tape(0, 2), 4);
    due(18, "that has happened", x.crash(6), 1);
    due(18, "it waits no more", x.told(8), 0);
  }

  private static void lose() {
    StubHouse x = twoStubs();
    x.make(0, 'd', true);
    x.make(3, 'e', false);
    write(x, 4, 0, 5, 0);
    x.read(1, 0);
    x.fill(7, 0);
    x.step(1);
    x.reclaim(0);
    due(19, "files", x.lose(), 3);
    due(19, "again", x.lose(), StubHouse.LOST);
    for (int i : new int[] {1, 2, 3, 4, 5, 6, 7, 8, 9, 10, 18}) due(19, "told(" + i + ")", x.told(i), 0);
    due(19, "told(14)", x.told(14), 1);
    due(19, "what is at hand", x.told(15), 7);
    due(19, "IDs, STAMPS, VERSIONS", x.told(16) * 10000 + x.told(17) * 100 + x.told(19), 4 * 10000 + 300 + 7);
    for (int d = 0; d < 2; d++) due(19, "drive " + d, x.drive(d, 0), StubHouse.NONE);
    due(19, "tapes", x.tape(0, 2), 2);
    due(19, "THE VIEW", x.view(-1, 0), 2);
    int time = x.told(0);
    due(19, "a STEP", x.step(9), 0);
    due(19, "TIME", x.told(0), time + 9);
    due(19, "nothing else", x.drive(0, 2) + x.drive(1, 2) + x.told(9), 0);
  }

  private static void rebuild() {
    StubHouse x = new StubHouse();
    due(20, "not LOST", x.rebuild(), StubHouse.STATE);
    x.marks(0, 0, 0);
    x.marks(1, 0, 0);
    x.make(0, 'd', true);
    x.make(1, 'e', true);
    x.make(2, 'f', false);
    x.make(0, 'g', false);
    write(x, 3, 0, 40, 50);
    write(x, 4, 0, 70, 60);
    x.step(40);
    x.make(0, 'h', false);
    write(x, 5, 0, 7, 0);
    due(20, "two are on tape", x.view(-1, 0), 2);
    x.lose();
    x.step(5);
    int time = x.told(0);
    due(20, "files", x.rebuild(), 2);
    due(20, "not LOST any more", x.told(14) * 10 + x.told(9), 0);
    due(20, "BLOCKS", x.told(4) * 1000 + x.told(5), 48160);
    due(20, "nodes", x.told(18), 5);
    due(20, "least numbers, by rising IDs", x.find(0, 'd') * 1000 + x.find(1, 'e') * 100 + x.find(2, 'f') * 10 + x.find(0, 'g'), 1234);
    due(20, "ID", x.about(3, 3) * 10 + x.about(4, 3), 12);
    due(20, "SIZE", x.about(3, 4) * 100 + x.about(4, 4), 4070);
    due(20, "VERSION", x.about(3, 5) * 10 + x.about(4, 5), 34);
    due(20, "TOUCH", x.about(3, 6), time);
    due(20, "STUBS", x.about(3, 10) * 10 + x.about(4, 10), 33);
    due(20, "COPIES", x.about(3, 7) * 10 + x.about(4, 7), 11);
    due(20, "numbers are not less than they were", x.told(16) * 10000 + x.told(17) * 100 + x.told(19), 4 * 10000 + 300 + 7);
    due(20, "KEPT", x.crash(0), 0);
    due(20, "still", x.told(18), 5);
    due(20, "not twice", x.rebuild(), StubHouse.STATE);
    x.marks(0, 40, 30);
    due(20, "its bytes", x.read(3, 39), StubHouse.RECALLING);
    x.step(20);
    due(20, "are there", x.read(3, 39), 89);
    x.remove(3);
    x.sync();
    x.step(40);
    x.lose();
    due(20, "without what was removed", x.rebuild(), 1);
    due(20, "nor its directories", x.told(18), 2);
  }

  private static void rebuildOfTwoCopies() {
    StubHouse x = new StubHouse();
    x.marks(0, 0, 0);
    x.marks(1, 0, 0);
    x.copies(2);
    x.make(0, 'a', false);
    write(x, 1, 0, 40, 50);
    x.step(60);
    due(20, "two COPIES", x.about(1, 7), 2);
    x.spoil(0, 8 + 29, 8);
    x.lose();
    due(20, "a file", x.rebuild(), 1);
    due(20, "one COPY FITS", x.about(1, 7) * 10 + x.copy(1, 0, 0), 11);
    x.spoil(1, 8 + 29, 8);
    x.lose();
    due(20, "no file", x.rebuild(), 0);
    due(20, "numbers go on", x.told(16), 2);
  }

  public static void main(String[] args) {
    marks();
    copies();
    sync();
    syncOfItself();
    syncAheadOfBlocks();
    crash();
    crashOfDrives();
    crashOfStubs();
    deletesAndCrash();
    lose();
    rebuild();
    rebuildOfTwoCopies();
    if (wrong > 0) System.exit(1);
  }
}
