/** Promises 6 to 10, 13: what is at hand, and what files hold. */
public final class ContentTests {
  private static int wrong = 0;

  private static void due(int promise, String call, long got, long want) {
    if (got == want) return;
    wrong++;
    System.out.println("promise " + promise + ": " + call + " answered " + got + ", due is " + want);
  }

  /** Writes so many bytes, v and on, from a place on, in parts of 256. */
  private static int write(StubHouse x, int file, int place, int count, int v) {
    int size = 0;
    for (int done = 0; done < count; done += 256) {
      x.fill(Math.min(256, count - done), v + done);
      size = x.write(file, place + done);
    }
    return size;
  }

  /** A file (1) of 40 bytes that is a STUB with a COPY on tape 0 at 8, in eight STEPS. */
  private static StubHouse stub() {
    StubHouse x = new StubHouse();
    x.marks(0, 0, 0);
    x.marks(1, 0, 0);
    x.make(0, 'a', false);
    write(x, 1, 0, 40, 100);
    x.step(8);
    return x;
  }

  /** The same without COPIES: the one that it had was spoiled, and was looked at for a RECALL. */
  private static StubHouse damaged() {
    StubHouse x = stub();
    x.spoil(0, 8 + 29, 1);
    x.read(1, 0);
    x.step(8);
    return x;
  }

  private static void feed() {
    StubHouse x = new StubHouse();
    for (int n : new int[] {0, -1, 9, Integer.MIN_VALUE, Integer.MAX_VALUE}) due(6, "feed(" + n + ")", x.feed(n, 1), StubHouse.BAD);
    due(6, "one", x.feed(1, 0x1ff), 1);
    due(6, "three more", x.feed(3, 0x44332211L), 4);
    due(6, "eight more", x.feed(8, 0x8877665544332280L), 12);
    x.make(0, 'a', false);
    x.write(1, 0);
    int[] want = {0xff, 0x11, 0x22, 0x33, 0x80, 0x22, 0x33, 0x44, 0x55, 0x66, 0x77, 0x88};
    for (int i = 0; i < want.length; i++) due(6, "byte " + i, x.read(1, i), want[i]);
    x.fill(249, 0);
    due(6, "above 256", x.feed(8, 1), StubHouse.ROOM);
    due(6, "BAD ahead of ROOM", x.feed(9, 1), StubHouse.BAD);
    due(6, "to 256", x.feed(7, 1), 256);
    x.lose();
    due(6, "never LOST", x.feed(1, 1), StubHouse.ROOM);
    due(6, "nor is what is at hand", x.told(15), 256);
  }

  private static void fill() {
    StubHouse x = new StubHouse();
    for (int n : new int[] {0, -1, 257, Integer.MIN_VALUE, Integer.MAX_VALUE}) due(7, "fill(" + n + ")", x.fill(n, 1), StubHouse.BAD);
    due(7, "five", x.fill(5, 254), 5);
    due(7, "three more", x.fill(3, -1), 8);
    due(7, "to the last int", x.fill(2, Integer.MAX_VALUE), 10);
    x.make(0, 'a', false);
    x.write(1, 0);
    int[] want = {254, 255, 0, 1, 2, 255, 0, 1, 255, 0};
    for (int i = 0; i < want.length; i++) due(7, "byte " + i, x.read(1, i), want[i]);
    due(7, "all", x.fill(256, 0), 256);
    due(7, "above 256", x.fill(1, 0), StubHouse.ROOM);
    due(7, "BAD ahead of ROOM", x.fill(257, 0), StubHouse.BAD);
    StubHouse y = new StubHouse();
    y.lose();
    due(7, "never LOST", y.fill(256, 0), 256);
  }

  private static void write() {
    StubHouse x = new StubHouse();
    x.make(0, 'a', false);
    x.make(0, 'd', true);
    due(8, "nothing at hand", x.write(1, 0), StubHouse.BAD);
    x.fill(70, 0);
    for (int f : new int[] {0, 2, 3, -1, 60}) due(8, "no FILE " + f, x.write(f, 0), StubHouse.BAD);
    for (int p : new int[] {-1, 1, Integer.MAX_VALUE, Integer.MIN_VALUE}) due(8, "place " + p, x.write(1, p), StubHouse.BAD);
    due(8, "it stays at hand", x.told(15), 70);
    due(8, "written", x.write(1, 0), 70);
    due(8, "none at hand then", x.told(15), 0);
    due(8, "VERSION", x.about(1, 5), 2);
    for (int i = 0; i < 3; i++) due(8, "block " + i, x.block(1, i), i);
    x.fill(10, 200);
    due(8, "within", x.write(1, 60), 70);
    for (int i = 0; i < 70; i++) due(8, "byte " + i, x.read(1, i), i < 60 ? i : 140 + i);
    due(8, "only the parts that are written are elsewhere", x.block(1, 0) * 10000 + x.block(1, 1) * 100 + x.block(1, 2), 304);
    due(8, "HELD", x.told(3), 2);
    due(8, "bytes of RECORDS", x.told(10), 16 + 16 + 20 + 20);
    due(8, "behind the end", write(x, 1, 70, 300, 70), 370);
    due(8, "to the greatest SIZE", write(x, 1, 370, 654, 370), 1024);
    x.fill(1, 0);
    due(8, "above 1,024", x.write(1, 1024), StubHouse.ROOM);
    due(8, "the last byte", x.write(1, 1023), 1024);
    x.sync();
    x.make(2, 'b', false);
    for (int f = 0; f < 5; f++) {
      x.make(0, 'm' + f, false);
      write(x, 4 + f, 0, 1024, f);
      x.sync();
    }
    due(8, "BLOCKS FREE", x.told(4) * 1000 + x.told(5), 16);
    due(8, "FAST first, then SLOW", x.told(1) * 1000 + x.told(2), 48 * 1000 + 144);
    x.fill(256, 1);
    due(8, "a whole one", x.write(3, 0), 256);
    x.fill(256, 1);
    due(8, "the last BLOCKS", x.write(3, 256), 512);
    x.fill(1, 1);
    due(8, "no BLOCK is FREE", x.write(3, 0), StubHouse.ROOM);
    due(8, "ROOM leaves all as it is", x.told(15) * 1000 + x.about(3, 4), 1512);
    x.remove(8);
    due(8, "HELD ones are not FREE", x.write(3, 0), StubHouse.ROOM);
    x.sync();
    due(8, "FREE ones are taken", x.write(3, 0), 512);
    StubHouse s = stub();
    s.fill(200, 0);
    due(8, "place of a STUB", s.write(1, 41), StubHouse.BAD);
    due(8, "RECALLING", s.write(1, 40), StubHouse.RECALLING);
    due(8, "it waits, and stays at hand", s.told(6) * 1000 + s.told(15), 1200);
    s.lose();
    due(8, "LOST ahead of BAD", s.write(-1, 0), StubHouse.LOST);
    StubHouse d = damaged();
    d.fill(200, 0);
    due(8, "DAMAGED", d.write(1, 0), StubHouse.DAMAGED);
    due(8, "no RECALL waits", d.told(6), 0);
  }

  private static void writeRoomAheadOfRecalling() {
    StubHouse x = new StubHouse();
    x.make(0, 'a', false);
    write(x, 1, 0, 1000, 0);
    x.marks(0, 0, 0);
    x.marks(1, 0, 0);
    x.step(100);
    due(8, "a STUB", x.about(1, 10), 3);
    x.fill(25, 0);
    due(8, "ROOM ahead of RECALLING", x.write(1, 1000), StubHouse.ROOM);
    due(8, "BAD ahead of ROOM", x.write(1, 1001), StubHouse.BAD);
    due(8, "no RECALL waits", x.told(6), 0);
  }

  private static void cut() {
    StubHouse x = new StubHouse();
    x.make(0, 'a', false);
    x.make(0, 'd', true);
    write(x, 1, 0, 100, 0);
    for (int f : new int[] {0, 2, 3, -1, 60}) due(9, "no FILE " + f, x.cut(f, 0), StubHouse.BAD);
    for (int s : new int[] {-1, 101, Integer.MIN_VALUE, Integer.MAX_VALUE}) due(9, "SIZE " + s, x.cut(1, s), StubHouse.BAD);
    due(9, "within a BLOCK", x.cut(1, 70), 70);
    due(9, "the last one is elsewhere", x.block(1, 2), 4);
    due(9, "HELD", x.told(3), 2);
    due(9, "byte", x.read(1, 69), 69);
    due(9, "behind it", x.read(1, 70), StubHouse.BAD);
    due(9, "whole BLOCKS", x.cut(1, 64), 64);
    due(9, "none is written", x.block(1, 1) * 10 + x.told(3), 13);
    due(9, "VERSION", x.about(1, 5), 4);
    due(9, "the same SIZE", x.cut(1, 64), 64);
    due(9, "is a cut, too", x.about(1, 5) * 100 + x.told(9), 505 + 1);
    due(9, "to 0", x.cut(1, 0), 0);
    due(9, "no BLOCKS", x.told(1) * 100 + x.told(3), 5);
    due(9, "bytes of RECORDS", x.told(10), 32 + 24 + 20 + 16 + 16 + 8);
    x.fill(10, 5);
    x.write(1, 0);
    x.fill(1, 9);
    x.write(1, 10);
    due(9, "what was cut does not come back", x.read(1, 10) * 100 + x.read(1, 9), 914);
    StubHouse s = stub();
    due(9, "RECALLING", s.cut(1, 5), StubHouse.RECALLING);
    due(9, "it waits", s.told(6), 1);
    due(9, "a STUB to 0", s.cut(1, 0), 0);
    due(9, "it waits no more", s.told(6) * 10 + s.about(1, 7), 0);
    StubHouse d = damaged();
    due(9, "DAMAGED", d.cut(1, 5), StubHouse.DAMAGED);
    due(9, "BAD ahead of it", d.cut(1, 41), StubHouse.BAD);
    due(9, "DAMAGED to 0", d.cut(1, 0), 0);
    due(9, "no more", d.about(1, 10), 0);
    d.lose();
    due(9, "LOST ahead of BAD", d.cut(-1, 0), StubHouse.LOST);
  }

  private static void cutWithoutRoom() {
    StubHouse x = new StubHouse();
    for (int f = 1; f <= 6; f++) {
      x.make(0, 'a' + f, false);
      write(x, f, 0, 1024, f);
      x.sync();
    }
    x.make(0, 'z', false);
    write(x, 7, 0, 512, 3);
    due(9, "all BLOCKS are of files", x.told(1) + x.told(2), 208);
    due(9, "no BLOCK is FREE", x.cut(1, 1000), StubHouse.ROOM);
    due(9, "BAD ahead of ROOM", x.cut(1, 1025), StubHouse.BAD);
    due(9, "none is wanted for the same SIZE of a part", x.cut(7, 512), 512);
    due(9, "none is wanted for whole ones", x.cut(1, 992), 992);
    due(9, "one is HELD, none is FREE", x.cut(1, 991), StubHouse.ROOM);
    x.sync();
    due(9, "one is FREE", x.cut(1, 991), 991);
    due(9, "none again, the same SIZE", x.cut(1, 991), 991);
    due(9, "less", x.cut(1, 990), StubHouse.ROOM);
  }

  private static void read() {
    StubHouse x = new StubHouse();
    x.make(0, 'a', false);
    x.make(0, 'd', true);
    write(x, 1, 0, 33, 250);
    for (int f : new int[] {0, 2, 3, -1, 60}) due(10, "no FILE " + f, x.read(f, 0), StubHouse.BAD);
    for (int p : new int[] {-1, 33, Integer.MIN_VALUE, Integer.MAX_VALUE}) due(10, "place " + p, x.read(1, p), StubHouse.BAD);
    for (int p = 0; p < 33; p++) due(10, "byte " + p, x.read(1, p), (250 + p) % 256);
    StubHouse s = stub();
    due(10, "it is a STUB", s.about(1, 10), 3);
    due(10, "BAD ahead of RECALLING", s.read(1, 40), StubHouse.BAD);
    due(10, "no RECALL", s.told(6), 0);
    due(10, "RECALLING", s.read(1, 0), StubHouse.RECALLING);
    due(10, "again", s.read(1, 39), StubHouse.RECALLING);
    due(10, "one RECALL", s.told(6), 1);
    due(10, "TOUCH is not changed by it", s.about(1, 6), 0);
    s.remove(1);
    due(10, "it waits no more", s.told(6), 0);
    StubHouse d = damaged();
    due(10, "it has no COPY", d.about(1, 7), 0);
    due(10, "the RECALL waits no more", d.told(6), 0);
    due(10, "DAMAGED", d.read(1, 0), StubHouse.DAMAGED);
    due(10, "BAD ahead of it", d.read(1, 40), StubHouse.BAD);
    due(10, "no RECALL of it", d.told(6), 0);
    StubHouse r = stub();
    r.read(1, 0);
    r.marks(0, 40, 30);
    r.marks(1, 140, 100);
    r.step(8);
    for (int p = 0; p < 40; p++) due(10, "byte " + p + " RECALLED", r.read(1, p), 100 + p);
    r.lose();
    due(10, "LOST ahead of BAD", r.read(-1, 0), StubHouse.LOST);
  }

  private static void block() {
    StubHouse x = new StubHouse();
    x.make(0, 'a', false);
    x.make(0, 'b', false);
    x.make(0, 'd', true);
    write(x, 1, 0, 1024, 0);
    write(x, 2, 0, 600, 0);
    for (int i = 0; i < 32; i++) due(13, "block(1, " + i + ")", x.block(1, i), i);
    for (int i = 0; i < 19; i++) due(13, "block(2, " + i + ")", x.block(2, i), i < 16 ? 32 + i : 1000 + i - 16);
    for (int i : new int[] {-1, 19, Integer.MAX_VALUE}) due(13, "block(2, " + i + ")", x.block(2, i), StubHouse.BAD);
    due(13, "block(1, 32)", x.block(1, 32), StubHouse.BAD);
    for (int f : new int[] {0, 3, 4, -1, 60}) due(13, "no FILE " + f, x.block(f, 0), StubHouse.BAD);
    StubHouse s = stub();
    due(13, "of a STUB", s.block(1, 0), StubHouse.NONE);
    due(13, "its last one", s.block(1, 1), StubHouse.NONE);
    due(13, "no such one of a STUB", s.block(1, 2), StubHouse.BAD);
    s.lose();
    due(13, "LOST ahead of BAD", s.block(-1, 0), StubHouse.LOST);
  }

  public static void main(String[] args) {
    feed();
    fill();
    write();
    writeRoomAheadOfRecalling();
    cut();
    cutWithoutRoom();
    read();
    block();
    if (wrong > 0) System.exit(1);
  }
}
