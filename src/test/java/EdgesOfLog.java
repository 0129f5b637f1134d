import java.util.function.Consumer;
import java.util.function.Supplier;

/** Edges of terms 4 and 7 and of promises 15 to 20: each sentence that names one, in the document's order. */
public final class EdgesOfLog {
  private static final int BAD = -1, NONE = -2, ROOM = -3, RECALLING = -4, STATE = -6, LOST = -8;

  /** What a RECORD can tell of: all of the nodes but TOUCH, the DELETES that wait. */
  private static String kept(StubHouse x) {
    StringBuilder s = new StringBuilder();
    for (int n = 0; n < 60; n++) {
      if (x.about(n, 0) == 0) continue;
      s.append(n).append(' ').append(x.name(n));
      for (int k = 0; k < 11; k++) if (k != 6) s.append(' ').append(x.about(n, k));
      for (int i = 0; i < 32; i++) s.append(' ').append(x.block(n, i));
      for (int i = 0; i < 4; i++) s.append(' ').append(x.copy(n, i / 2, i % 2));
      s.append(';');
    }
    return s.append(x.told(8)).append(' ').append(x.told(18)).toString();
  }

  /** A house in which the next thing that is done is one RECORD. */
  private static final class Case {
    final String what;
    final int bytes;
    final Supplier<StubHouse> before;
    final Consumer<StubHouse> act;

    Case(String what, int bytes, Supplier<StubHouse> before, Consumer<StubHouse> act) {
      this.what = what;
      this.bytes = bytes;
      this.before = before;
      this.act = act;
    }
  }

  /** A file (1) of 40 bytes, an empty directory (2), a file (3) of SIZE 0; all is KEPT. */
  private static StubHouse some() {
    StubHouse x = new StubHouse();
    House.file(x, "a", 40, 0);
    x.make(0, 'd', true);
    x.make(0, 'e', false);
    x.sync();
    return x;
  }

  /** The file that sinks, a directory (2) beside it, so many STEPS later. */
  private static StubHouse sunk(int copies, int steps) {
    StubHouse x = House.sinkingFile();
    x.make(0, 'd', true);
    x.copies(copies);
    x.step(steps);
    return x;
  }

  private static StubHouse stub() {
    StubHouse x = House.stub();
    x.make(0, 'd', true);
    return x;
  }

  private static StubHouse asked(StubHouse x, int steps) {
    x.read(1, 0);
    x.step(steps);
    return x;
  }

  private static StubHouse spoiled(StubHouse x) {
    x.spoil(0, 8 + 29, 1);
    return x;
  }

  /** The tape of the STUB is being RECLAIMED; in 12 STEPS its SEGMENT is elsewhere, in 13 it is BLANKED. */
  private static StubHouse reclaimed(StubHouse x, int steps) {
    x.reclaim(0);
    x.step(steps);
    return x;
  }

  private static StubHouse removed(int steps) {
    StubHouse x = stub();
    x.remove(1);
    x.sync();
    x.step(steps);
    return x;
  }

  private static Case[] cases() {
    return new Case[] {
      new Case("make of a file", 16, EdgesOfLog::some, x -> x.make(0, 'q', false)),
      new Case("make of a directory", 16, EdgesOfLog::some, x -> x.make(0, 'q', true)),
      new Case("remove of a file", 6, EdgesOfLog::some, x -> x.remove(1)),
      new Case("remove of a directory", 6, EdgesOfLog::some, x -> x.remove(2)),
      new Case("remove of a STUB", 6, EdgesOfLog::stub, x -> x.remove(1)),
      new Case("move", 16, EdgesOfLog::some, x -> x.move(1, 2, 'q')),
      new Case("write of 1 BLOCK", 12, EdgesOfLog::some, x -> House.write(x, 3, 0, 32, 5)),
      new Case("write of 3 BLOCKS", 20, EdgesOfLog::some, x -> House.write(x, 3, 0, 65, 5)),
      new Case("write of 1 BLOCK of 2", 16, EdgesOfLog::some, x -> House.write(x, 1, 0, 1, 5)),
      new Case("write of the 33rd byte", 16, EdgesOfLog::some, x -> House.write(x, 1, 39, 1, 5)),
      new Case("cut to 2 BLOCKS", 16, EdgesOfLog::some, x -> x.cut(1, 33)),
      new Case("cut to the same SIZE", 16, EdgesOfLog::some, x -> x.cut(1, 40)),
      new Case("cut to 1 BLOCK", 12, EdgesOfLog::some, x -> x.cut(1, 32)),
      new Case("cut to 0", 8, EdgesOfLog::some, x -> x.cut(1, 0)),
      new Case("cut of SIZE 0", 8, EdgesOfLog::some, x -> x.cut(3, 0)),
      new Case("cut of a STUB to 0", 8, EdgesOfLog::stub, x -> x.cut(1, 0)),
      new Case("recall", 16, () -> asked(stub(), 7), x -> x.step(1)),
      new Case("a BLOCK moved", 8, () -> sunk(1, 1), x -> x.step(1)),
      new Case("a COPY noted", 12, () -> sunk(2, 7), x -> x.step(1)),
      new Case("RELEASED", 6, () -> satisfied(sunk(2, 8)), x -> x.step(1)),
      new Case("a COPY put elsewhere", 12, () -> reclaimed(stub(), 11), x -> x.step(1)),
      new Case("a COPY taken away", 12, () -> asked(spoiled(stub()), 7), x -> x.step(1)),
      new Case("a COPY taken away by BLANKING", 12, () -> reclaimed(spoiled(stub()), 5), x -> x.step(1)),
      new Case("a DELETE written", 6, () -> removed(0), x -> x.step(1))};
  }

  /** No more COPIES are asked for than are there. */
  private static StubHouse satisfied(StubHouse x) {
    x.copies(1);
    return x;
  }

  private static StubHouse ready(Case c) {
    StubHouse x = c.before.get();
    x.sync();
    return x;
  }

  private static void lengths() {
    House.sentence("T4: a RECORD of so many bytes: make 16, remove 6, move 16; write, cut, recall 8 and 4 for each BLOCK; moved 8; RELEASED 6; a COPY 12; a DELETE 6");
    for (Case c : cases()) {
      StubHouse x = ready(c);
      House.due("none is not KEPT ahead of " + c.what, x.told(9), 0);
      c.act.accept(x);
      House.due(c.what, x.told(9) * 1000 + x.told(10), 1000 + c.bytes);
      House.due("DELETES that wait behind " + c.what, x.told(8), c.what.equals("remove of a STUB") ? 1 : 0);
    }
    StubHouse x = new StubHouse();
    House.file(x, "a", 1024, 0);
    x.sync();
    House.write(x, 1, 1023, 1, 0);
    House.due("write of the greatest SIZE", x.told(10), 8 + 4 * 32);
  }

  private static void crashes() {
    House.sentence("T4, 18: of the bytes the first n are there; those RECORDS that are there wholly have happened, all others have not");
    for (Case c : cases()) {
      StubHouse now = ready(c);
      String was = kept(now);
      c.act.accept(now);
      String is = kept(now);
      for (int n : new int[] {0, c.bytes - 1, c.bytes, c.bytes + 1, Integer.MAX_VALUE}) {
        StubHouse x = ready(c);
        c.act.accept(x);
        boolean happened = n >= c.bytes;
        House.due("crash(" + n + ") behind " + c.what, x.crash(n), happened ? 1 : 0);
        House.due("what is there behind " + c.what + " and crash(" + n + ")", kept(x), happened ? is : was);
        House.due("it is KEPT", x.told(9) + x.told(10) + x.crash(0), 0);
        House.due("and stays", kept(x), happened ? is : was);
        dueBlocks("behind " + c.what + " and crash(" + n + ")", x);
        for (int f = 1; f < 4; f++) if (x.about(f, 0) == 2) House.due("TOUCH is TIME for all", x.about(f, 6), x.told(0));
      }
    }
  }

  /** All BLOCKS that are no file's are FREE, and no file's BLOCK is. */
  private static void dueBlocks(String when, StubHouse x) {
    int fast = 0;
    int slow = 0;
    for (int n = 0; n < 60; n++) {
      fast += Math.max(0, x.about(n, 8));
      slow += Math.max(0, x.about(n, 9));
    }
    House.due("of files in FAST " + when, x.told(1), fast);
    House.due("of files in SLOW " + when, x.told(2), slow);
    House.due("HELD " + when, x.told(3), 0);
    House.due("FREE in FAST " + when, x.told(4), 48 - fast);
    House.due("FREE in SLOW " + when, x.told(5), 160 - slow);
  }

  private static void blocksBehindACrash() {
    House.sentence("T4: all BLOCKS that are no file's are FREE then, and files have theirs");
    for (int n : new int[] {0, 12, 20, 36, Integer.MAX_VALUE}) {
      StubHouse x = new StubHouse();
      House.file(x, "a", 96, 0);
      House.file(x, "b", 96, 100);
      x.sync();
      House.write(x, 1, 40, 1, 77);
      x.cut(2, 1);
      x.remove(2);
      x.crash(n);
      dueBlocks("behind crash(" + n + ")", x);
      int left = x.told(4) + x.told(5);
      House.fillUp(x, 3, left);
      House.due("all are given out", x.told(4) + x.told(5), 0);
      for (int p = 0; p < 96; p++) House.due("byte " + p + " of a behind crash(" + n + ")", x.read(1, p), n >= 20 && p == 40 ? 77 : p);
      int size = n < 32 ? 96 : n < 38 ? 1 : 0;
      for (int p = 0; p < size; p++) House.due("byte " + p + " of b behind crash(" + n + ")", x.read(2, p), 100 + p);
    }
  }

  private static void blocksBehindALoss() {
    House.sentence("T7: nothing of both stores is there: all BLOCKS are FREE when REBUILT");
    StubHouse x = House.full();
    x.cut(1, 5);
    x.remove(7);
    x.lose();
    x.rebuild();
    dueBlocks("when REBUILT", x);
    House.due("of nothing", x.told(1) + x.told(2), 0);
    x.crash(0);
    dueBlocks("behind a crash", x);
    House.due("of nothing", x.told(1) + x.told(2), 0);
    House.fillUp(x, 1, 208);
    House.due("all are given out", x.told(4) + x.told(5), 0);
    House.sentence("T7: a STUB, whatever it was: in FAST");
    StubHouse y = asked(stub(), 20);
    House.due("in FAST", y.about(1, 8), 2);
    y.lose();
    y.rebuild();
    House.due("a STUB", y.about(1, 10) * 100 + y.about(1, 8) * 10 + y.about(1, 9), 300);
    House.due("without BLOCKS", y.block(1, 0), NONE);
    dueBlocks("when REBUILT", y);
    House.sentence("T7: a STUB, whatever it was: in SLOW");
    StubHouse z = asked(stub(), 20);
    z.marks(0, 0, 0);
    z.step(2);
    House.due("in SLOW", z.about(1, 9), 2);
    z.lose();
    z.rebuild();
    House.due("a STUB", z.about(1, 10) * 100 + z.about(1, 8) * 10 + z.about(1, 9), 300);
    dueBlocks("when REBUILT", z);
    House.sentence("T7: no DELETE waits");
    StubHouse w = removed(0);
    House.due("one, none", w.told(8) * 10 + w.lose() + w.told(8), 10);
    w.rebuild();
    House.due("nor when REBUILT", w.told(8) * 10 + w.told(18), 2);
  }

  /** a (1) has its COPIES on tape 0 at 49 and on tape 1 at 8. */
  private static StubHouse unlikePlaces() {
    StubHouse x = House.sinking();
    House.file(x, "z", 8, 0);
    x.step(40);
    x.copies(2);
    House.file(x, "a", 40, 100);
    x.step(60);
    x.copies(1);
    x.sync();
    x.crash(0);
    House.calm(x);
    House.due("tapes", x.copy(2, 0, 0) * 10 + x.copy(2, 1, 0), 1);
    House.due("places", x.copy(2, 0, 1) * 100 + x.copy(2, 1, 1), 4908);
    return x;
  }

  private static void copiesBehindACrash() {
    House.sentence("T4: a COPY put elsewhere that has not happened is where it was");
    StubHouse x = unlikePlaces();
    x.reclaim(0);
    House.stepsUntil(x, y -> y.copy(2, 0, 0) != 0);
    House.due("elsewhere", x.copy(2, 0, 0) * 100 + x.copy(2, 0, 1), 208);
    House.due("two RECORDS", x.told(9) * 100 + x.told(10), 224);
    x.crash(23);
    House.due("where it was", x.copy(2, 0, 0) * 100 + x.copy(2, 0, 1), 49);
    House.due("the other one's is elsewhere", x.copy(1, 0, 0) * 100 + x.copy(1, 0, 1), 181);
    House.sentence("T4, T5: a COPY taken away: the other one is the first then, with its place");
    StubHouse y = unlikePlaces();
    y.spoil(0, 49 + 29, 1);
    y.read(2, 0);
    House.stepsUntil(y, z -> z.about(2, 7) == 1);
    House.due("tape 1 at 8", y.copy(2, 0, 0) * 100 + y.copy(2, 0, 1), 108);
    House.due("none behind it", y.copy(2, 1, 1), NONE);
    y.crash(11);
    House.due("back again", y.copy(2, 0, 0) * 1000000 + y.copy(2, 0, 1) * 10000 + y.copy(2, 1, 0) * 100 + y.copy(2, 1, 1), 490108);
    House.sentence("T5: BLANKED: all COPIES that files have there go, also second ones");
    StubHouse w = unlikePlaces();
    w.spoil(1, 8 + 29, 1);
    w.reclaim(1);
    House.stepsUntil(w, z -> z.told(13) == NONE);
    House.due("the first one stays", w.about(2, 7) * 1000 + w.copy(2, 0, 0) * 100 + w.copy(2, 0, 1), 1049);
  }

  private static void crashBetween() {
    House.sentence("18: how many RECORDS have happened of those that were not KEPT");
    int[] sums = {0, 16, 32, 48, 60, 66, 72};
    for (int n = 0; n <= 80; n++) {
      StubHouse x = new StubHouse();
      x.make(0, 'z', true);
      x.sync();
      x.make(0, 'a', false);
      x.make(0, 'b', true);
      x.move(2, 3, 'c');
      House.write(x, 2, 0, 5, 0);
      x.remove(2);
      x.remove(3);
      int want = 0;
      while (want < 6 && sums[want + 1] <= n) want++;
      House.due("crash(" + n + ")", x.crash(n), want);
      House.due("nodes", x.told(18), new int[] {2, 3, 4, 4, 4, 3, 2}[want]);
    }
  }

  private static void crashRefused() {
    House.sentence("18: BAD: n below 0");
    Supplier<StubHouse> busy = () -> {
      StubHouse x = asked(sunk(1, 8), 4);
      x.make(0, 'q', false);
      x.fill(3, 0);
      return x;
    };
    for (int n : new int[] {-1, -2, Integer.MIN_VALUE}) House.refused("crash(" + n + ")", BAD, busy, x -> x.crash(n));
    House.due("crash(0)", busy.get().crash(0), 0);
    House.sentence("18: LOST");
    House.refused("crash(0)", LOST, House::lost, x -> x.crash(0));
    House.due("ahead of BAD", House.lost().crash(-1), LOST);
  }

  private static void crashStops() {
    House.sentence("T4: drives are empty (what was being done is not), nothing waits to be recalled, written");
    for (int steps = 0; steps < 30; steps++) {
      StubHouse x = sunk(2, steps);
      int[] tapes = {x.tape(0, 0), x.tape(1, 0)};
      int stamp = x.told(17);
      x.crash(Integer.MAX_VALUE);
      for (int d = 0; d < 2; d++) {
        House.due("drive " + d + " at " + steps, x.drive(d, 0), NONE);
        House.due("drive " + d + " at " + steps, x.drive(d, 1) + x.drive(d, 2) + x.drive(d, 3), 0);
      }
      House.due("tapes are as they are at " + steps, x.tape(0, 0) * 1000 + x.tape(1, 0), tapes[0] * 1000 + tapes[1]);
      House.due("nothing waits at " + steps, x.told(6) + x.told(7), 0);
      House.due("modes are off at " + steps, x.told(11) + x.told(12), 0);
      House.due("STAMPS go on at " + steps, x.told(17), stamp);
    }
    House.sentence("T4: nothing waits to be recalled, no tape is being RECLAIMED");
    StubHouse y = asked(stub(), 1);
    y.reclaim(0);
    House.due("one, tape 0", y.told(6) * 10 + y.told(13), 10);
    y.crash(0);
    House.due("none", y.told(6) * 10 + y.told(13), NONE);
    y.step(50);
    House.due("nothing goes on", y.drive(1, 0) * 10 + y.tape(0, 2), -19);
    House.sentence("T4, T7: what was read by RECLAIMING waits no more");
    for (int steps = 0; steps < 12; steps++) {
      StubHouse s = reclaimed(stub(), steps);
      s.crash(Integer.MAX_VALUE);
      s.step(50);
      House.due("crash at " + steps + ": tapes are as they were", s.tape(0, 0) * 1000 + s.tape(1, 0), 81000);
      House.due("crash at " + steps + ": no ACT, no tape", House.drives(s), "-2,0,0,0 -2,0,0,0");
      StubHouse l = reclaimed(stub(), steps);
      l.lose();
      l.step(5);
      l.rebuild();
      l.step(50);
      House.due("lose at " + steps + ": tapes are as they were", l.tape(0, 0) * 1000 + l.tape(1, 0), 81000);
      House.due("lose at " + steps + ": no ACT, no tape", House.drives(l), "-2,0,0,0 -2,0,0,0");
    }
    House.sentence("T4: a tape can be RECLAIMED anew behind a crash");
    StubHouse z = reclaimed(stub(), 8);
    z.crash(0);
    House.due("reclaim(0)", z.reclaim(0), 0);
    House.stepsUntil(z, w -> w.told(13) == NONE);
    House.due("once on tape 1", z.tape(0, 0) * 100 + z.tape(1, 2) * 10 + z.copy(1, 0, 0), 11);
  }

  private static void syncs() {
    House.sentence("17: a SYNC: how many RECORDS are KEPT by it");
    StubHouse x = new StubHouse();
    House.due("none", x.sync(), 0);
    x.make(0, 'z', true);
    House.pad(x, 1, 200);
    House.due("200", x.sync(), 200);
    House.due("none again", x.sync(), 0);
    House.due("all are KEPT", x.crash(0) * 10 + x.told(18), 2);
    House.sentence("17: LOST");
    House.refused("sync()", LOST, House::lost, y -> y.sync());
  }

  private static void twoHundred() {
    House.sentence("T4: with 200 RECORDS that are not KEPT a SYNC is done ahead of the next one");
    for (Case c : cases()) {
      if (c.what.endsWith("BLANKING")) continue;
      for (int count = 198; count <= 200; count++) {
        StubHouse x = ready(c);
        int z = x.make(0, House.name("pad"), true);
        House.pad(x, z, count);
        int bytes = x.told(10);
        c.act.accept(x);
        House.due(c.what + " behind " + count, x.told(9), count == 200 ? 1 : count + 1);
        House.due("bytes of " + c.what + " behind " + count, x.told(10), count == 200 ? c.bytes : bytes + c.bytes);
        if (count == 200) House.due("the others are KEPT behind " + c.what, x.crash(0) * 100 + x.name(z), House.name("pad"));
      }
    }
  }

  private static void twoHundredRefused() {
    House.sentence("T4: as soon as it is sure to come (all refusals are looked at before)");
    Supplier<StubHouse> none = () -> {
      StubHouse x = House.full();
      x.make(0, 'd', true);
      x.remove(6);
      x.fill(1, 0);
      House.pad(x, 8, 200);
      return x;
    };
    House.refused("write without FREE ones: ROOM", ROOM, none, x -> x.write(1, 0));
    House.refused("cut without FREE ones: ROOM", ROOM, none, x -> x.cut(1, 5));
    House.refused("make of no NAME", BAD, none, x -> x.make(0, 0, true));
    House.refused("make that is TAKEN", -7, none, x -> x.make(0, 'd', true));
    House.refused("remove of the root", BAD, none, x -> x.remove(0));
    House.refused("move into itself", STATE, none, x -> x.move(8, 8, 'q'));
    House.refused("write above 1,024", ROOM, none, x -> x.write(1, 1024));
    House.refused("cut above SIZE", BAD, none, x -> x.cut(1, 1025));
    House.sentence("T4: a RECALL without room does no SYNC, though one would make room");
    StubHouse x = stub();
    House.fillUp(x, 3, 207);
    x.read(1, 0);
    x.step(30);
    House.due("it does not count", x.drive(1, 0) * 10 + x.told(6), -19);
    x.remove(3);
    House.pad(x, 2, 200);
    x.step(30);
    House.due("nor with HELD ones and 200 RECORDS", x.drive(1, 0) * 1000 + x.told(9), -1800);
    House.sentence("T4: the MIGRATOR without a FREE BLOCK of SLOW does no SYNC");
    StubHouse y = House.full();
    y.make(0, 'd', true);
    y.remove(6);
    House.pad(y, 8, 200);
    y.step(1);
    House.due("nothing is moved", y.told(11) * 1000 + y.told(9), 1200);
  }

  private static void blocksAfter() {
    House.sentence("T4: BLOCKS are given after the SYNC: write");
    StubHouse x = new StubHouse();
    House.file(x, "a", 32, 0);
    x.make(0, 'd', true);
    House.write(x, 1, 0, 32, 1);
    House.pad(x, 2, 200);
    House.write(x, 1, 0, 32, 2);
    House.due("BLOCK 0 was HELD", x.block(1, 0), 0);
    House.sentence("T4: BLOCKS are given after the SYNC: cut");
    StubHouse c = new StubHouse();
    House.file(c, "a", 32, 0);
    c.make(0, 'd', true);
    House.write(c, 1, 0, 32, 1);
    House.pad(c, 2, 200);
    c.cut(1, 31);
    House.due("BLOCK 0 was HELD", c.block(1, 0), 0);
    House.sentence("T4: BLOCKS are given after the SYNC: moved");
    StubHouse m = sunk(1, 1);
    m.read(1, 0);
    m.cut(1, 31);
    House.due("one of SLOW and two of FAST are HELD", m.block(1, 0) * 10 + m.told(3), 23);
    House.pad(m, 2, 200);
    m.step(1);
    House.due("BLOCK 0 of SLOW was HELD", m.block(1, 0), 1000);
    House.sentence("T4: BLOCKS are given after the SYNC: recall");
    StubHouse r = stub();
    House.fillUp(r, 3, 208);
    r.cut(5, 960);
    r.sync();
    r.cut(3, 960);
    House.due("two FREE of SLOW, two HELD of FAST", r.told(4) * 100 + r.told(5) * 10 + r.told(3), 22);
    House.pad(r, 2, 200);
    asked(r, 8);
    House.due("RECALLED into FAST", r.about(1, 8) * 10 + r.about(1, 9), 20);
  }

  private static void marksRefused() {
    Supplier<StubHouse> some = () -> {
      StubHouse x = new StubHouse();
      x.marks(0, 10, 5);
      x.marks(1, 8, 3);
      House.file(x, "a", 640, 0);
      return x;
    };
    House.sentence("15: BAD: no store");
    for (int s : new int[] {-1, 2, 3}) House.refused("marks(" + s + ", 10, 5)", BAD, some, x -> x.marks(s, 10, 5));
    for (int s : House.FAR) House.due("marks(" + s + ", 10, 5)", some.get().marks(s, 10, 5), BAD);
    House.sentence("15: BAD: not 0 .. all its BLOCKS");
    int[][] rows = {{0, -1, -1}, {0, -1, 0}, {0, 0, -1}, {0, 20, -1}, {0, 49, 0}, {0, 49, 49}, {0, 160, 0}, {1, -1, -1}, {1, 0, -1}, {1, 161, 0}, {1, 161, 161}};
    for (int[] r : rows) House.refused("marks(" + r[0] + ", " + r[1] + ", " + r[2] + ")", BAD, some, x -> x.marks(r[0], r[1], r[2]));
    for (int v : House.FAR) House.due("HIGH " + v, some.get().marks(0, v, 0), BAD);
    for (int v : House.FAR) House.due("LOW " + v, some.get().marks(1, 160, v), BAD);
    House.due("all of FAST", some.get().marks(0, 48, 48), 10);
    House.due("all of SLOW", some.get().marks(1, 160, 160), 8);
    House.due("none of FAST", some.get().marks(0, 0, 0), 10);
    House.due("none of SLOW", some.get().marks(1, 0, 0), 8);
    House.sentence("15: BAD: LOW above HIGH");
    for (int s = 0; s < 2; s++) {
      int store = s;
      House.refused("by one", BAD, some, x -> x.marks(store, 7, 8));
      House.refused("by much", BAD, some, x -> x.marks(store, 0, 48));
      House.due("not above", some.get().marks(s, 7, 7), s == 0 ? 10 : 8);
    }
    StubHouse x = some.get();
    x.marks(0, 49, 0);
    x.marks(0, 7, 8);
    House.due("HIGH is as it was", x.marks(0, 10, 5) * 100 + x.marks(1, 8, 3), 1008);
    House.sentence("15: it is never LOST");
    StubHouse y = House.lost();
    House.due("HIGH as it was", y.marks(0, 1, 1) * 1000 + y.marks(1, 1, 1), 48160);
  }

  private static void copiesRefused() {
    House.sentence("16: BAD: another number");
    for (int n : new int[] {0, -1, 3, 4}) {
      House.refused("copies(" + n + ")", BAD, House::sinkingFile, x -> x.copies(n));
      House.refused("copies(" + n + ") of two", BAD, () -> sunk(2, 3), x -> x.copies(n));
    }
    for (int n : House.FAR) House.due("copies(" + n + ")", some().copies(n), BAD);
    House.sentence("16: how many it was (1 at first); it is never LOST");
    StubHouse x = House.lost();
    House.due("1, 2, 2, 1", x.copies(2) * 1000 + x.copies(2) * 100 + x.copies(1) * 10 + x.copies(1), 1221);
  }

  private static void deletesFound() {
    House.sentence("T4: DELETES: when a file is removed of which some SEGMENT is FOUND on a tape");
    StubHouse x = stub();
    House.due("GOOD", x.remove(1) * 10 + x.told(8), 1);
    StubHouse y = spoiled(stub());
    House.due("not GOOD", y.tape(0, 3) * 10 + y.remove(1) * 10 + y.told(8), 11);
    StubHouse z = stub();
    z.spoil(0, 8, 1);
    House.due("not FOUND", z.remove(1) * 10 + z.told(8), 0);
    StubHouse v = stub();
    v.cut(1, 0);
    House.due("of another VERSION", v.remove(1) * 10 + v.told(8), 1);
    StubHouse w = stub();
    House.file(w, "q", 3, 0);
    House.due("another file, a directory", w.remove(3) + w.remove(2) + w.told(8), 0);
    House.sentence("T4: DELETES: or is being written");
    for (int steps = 0; steps < 9; steps++) {
      StubHouse s = sunk(1, steps);
      s.remove(1);
      House.due("removed at " + steps, s.told(8), steps < 7 ? 0 : 1);
    }
    House.sentence("T4: DELETES: being written by RECLAIMING");
    for (int steps = 7; steps < 12; steps++) {
      StubHouse s = reclaimed(stub(), steps);
      s.spoil(0, 8, 1);
      s.remove(1);
      House.due("removed at " + steps + ", ACT " + s.drive(0, 2), s.told(8), s.drive(0, 2) == 5 ? 1 : 0);
    }
  }

  private static void fortyDeletes() {
    House.sentence("T4: its ID waits (40 at most; no more are noted)");
    StubHouse x = House.sinking();
    for (int f = 1; f <= 45; f++) House.file(x, "f" + f, 1, f);
    x.step(450);
    x.sync();
    House.due("all are on tape", x.tape(0, 2), 45);
    for (int f = 1; f <= 39; f++) x.remove(f);
    House.due("39", x.told(8), 39);
    House.due("the 40th", x.remove(40) * 100 + x.told(8), 40);
    House.due("the 41st", x.remove(41) * 100 + x.told(8), 40);
    House.due("bytes of 41 RECORDS", x.told(10), 41 * 6);
    House.due("the 41st has not happened", x.crash(40 * 6) * 100 + x.told(8), 4040);
    House.due("removed again", x.remove(41) * 100 + x.told(8), 40);
    x.sync();
    while (x.told(8) == 40) x.step(1);
    House.due("one is written", x.told(8) * 100 + x.segment(0, 45, 2), 3901);
    House.due("there is room for another", x.remove(42) * 100 + x.told(8), 40);
    House.due("not for two", x.remove(43) * 100 + x.told(8), 40);
    House.due("the DELETE written has not happened: 1 .. 40 wait again", x.crash(5) * 100 + x.told(8), 40);
    x.step(450);
    House.due("written", x.told(8) * 1000 + x.tape(0, 2), 45 + 1 + 40);
    for (int i = 0; i < 40; i++) House.due("DELETE " + i + " by rising IDs", x.segment(0, 46 + i, 2), i + 1);
  }

  private static void deletesKept() {
    House.sentence("T4: that is begun only when the remove is KEPT");
    StubHouse x = stub();
    x.remove(1);
    x.step(300);
    House.due("nothing is written", x.told(8) * 10 + x.tape(0, 2), 11);
    House.pad(x, 2, 200);
    x.step(30);
    House.due("nor with 200 RECORDS", x.told(8) * 10 + x.tape(0, 2), 11);
    x.move(2, 0, 'q');
    x.step(1);
    House.due("begun behind the SYNC of itself", x.told(8) * 10 + x.tape(0, 2), 2);
    House.sentence("T4: the lesser ID is KEPT and written, the greater one is not KEPT");
    StubHouse z = House.sinking();
    House.file(z, "a", 1, 0);
    House.file(z, "b", 1, 0);
    z.step(60);
    z.remove(1);
    z.sync();
    z.remove(2);
    z.step(30);
    House.due("only that one is written", z.told(8) * 100 + z.tape(0, 2) * 10 + z.segment(0, 2, 2), 131);
    House.sentence("T4: the greater ID may be KEPT ahead of the lesser one");
    StubHouse y = House.sinking();
    House.file(y, "a", 1, 0);
    House.file(y, "b", 1, 0);
    y.step(60);
    y.remove(2);
    y.sync();
    y.remove(1);
    y.step(30);
    House.due("only that one is written", y.told(8) * 100 + y.tape(0, 2) * 10 + y.segment(0, 2, 2), 132);
  }

  private static void loses() {
    House.sentence("19: how many files there were");
    House.due("none", new StubHouse().lose(), 0);
    StubHouse x = new StubHouse();
    x.make(0, 'd', true);
    House.due("no directories", x.lose(), 0);
    House.due("30", House.crowded().lose(), 30);
    House.sentence("19: LOST: they were");
    House.refused("again", LOST, House::lost, y -> y.lose());
    House.sentence("T7: nothing of tree and LOG is there; drives are empty, nothing waits");
    for (int steps = 0; steps < 30; steps++) {
      StubHouse s = sunk(2, steps);
      s.fill(9, 0);
      int next = s.told(16) * 10000 + s.told(17) * 100 + s.told(19);
      s.lose();
      for (int k : new int[] {1, 2, 3, 4, 5, 6, 7, 8, 9, 10, 18}) House.due("told(" + k + ") at " + steps, s.told(k), 0);
      for (int d = 0; d < 2; d++) House.due("drive " + d, s.drive(d, 0) * 100 + s.drive(d, 1) + s.drive(d, 2) + s.drive(d, 3), -200);
      House.due("IDs, STAMPS, VERSIONS at " + steps, s.told(16) * 10000 + s.told(17) * 100 + s.told(19), next);
      House.due("at hand", s.told(15) * 10 + s.told(14), 91);
    }
    House.sentence("T7: a STEP does nothing but TIME");
    StubHouse s = removed(0);
    s.lose();
    String was = House.state(s);
    s.step(1);
    s.step(499);
    House.due("all else is as it was", House.state(s).replace("told 0: " + s.told(0), ""), was.replace("told 0: " + (s.told(0) - 500), ""));
  }

  private static void rebuildRefused() {
    House.sentence("20: STATE: it was not LOST");
    House.refused("a new one", STATE, StubHouse::new, x -> x.rebuild());
    House.refused("one with files", STATE, () -> asked(stub(), 3), x -> x.rebuild());
    House.refused("one that was REBUILT", STATE, () -> {
      StubHouse x = House.lost();
      x.rebuild();
      return x;
    }, x -> x.rebuild());
    House.sentence("20: of nothing");
    StubHouse x = new StubHouse();
    x.make(0, 'a', false);
    x.lose();
    House.due("no files, a root, all FREE", x.rebuild() * 100000 + x.told(18) * 10000 + x.told(4) + x.told(5), 10208);
    House.due("made anew with the next ID", x.make(0, 'a', false) * 10 + x.about(1, 3), 12);
  }

  private static void rebuiltSixty() {
    House.sentence("T7: when there are 60 it is left out");
    int[][] parts = new int[61][];
    StubHouse x = House.twoTapes(2);
    for (int i = 0; i < 61; i++) parts[i] = House.fileSegment(10 + i, 5, 100 + i, 0, House.name("f" + i));
    House.forge(x, 0, parts);
    x.lose();
    House.due("THE VIEW, files", x.view(-1, 0) * 100 + x.rebuild(), 6159);
    House.due("nodes", x.told(18), 60);
    for (int i = 0; i < 59; i++) House.due("by rising IDs, least numbers", x.about(i + 1, 3), 10 + i);
    House.sentence("T7: directories made for it stay");
    parts[58] = House.fileSegment(69, 5, 200, 0, 'p', 'q');
    House.forge(x, 0, parts);
    x.lose();
    House.due("files", x.rebuild(), 58);
    House.due("node 59 is its directory, without nodes", x.name(59) * 10 + x.about(59, 0), 'p' * 10 + 1);
    House.due("which can be removed", x.remove(59), 0);
    parts[60] = House.fileSegment(90, 5, 202, 0, 'm', 'n', 'o');
    House.forge(x, 0, parts);
    x.lose();
    House.due("when there are 60 no directory is made", x.rebuild() * 100 + x.told(18), 5860);
    House.due("not m", x.find(0, 'm'), NONE);
    parts[57] = House.fileSegment(68, 5, 201, 0, 'p', 'r');
    House.forge(x, 0, parts);
    x.lose();
    House.due("a directory that is there is made once", x.rebuild() * 100 + x.told(18), 5860);
    House.due("58 is p, 59 p/r", x.about(58, 0) * 1000 + x.about(59, 1) * 10 + x.about(59, 0), 1582);
  }

  private static void rebuiltNames() {
    House.sentence("T7: when a NAME is none it is left out; directories made for it stay");
    long[] none = {0, 'A', House.name("a\0b"), -1L, House.name("abcdefg{")};
    for (long bad : none) {
      StubHouse x = House.twoTapes(1);
      House.forge(x, 0, House.fileSegment(1, 1, 1, 1, 'p', 'q', bad), House.fileSegment(2, 2, 2, 1, 'r', bad, 's'), House.fileSegment(3, 3, 3, 1, bad), House.fileSegment(4, 4, 4, 1, 't'));
      x.lose();
      House.due("files with " + Long.toHexString(bad), x.rebuild(), 1);
      House.due("p, p/q, r, t", x.find(0, 'p') * 1000 + x.find(1, 'q') * 100 + x.find(0, 'r') * 10 + x.find(0, 't'), 1234);
      House.due("nodes", x.told(18), 5);
    }
    House.sentence("T7: nothing is made behind a NAME that is none");
    StubHouse w = House.twoTapes(1);
    House.forge(w, 0, House.fileSegment(1, 1, 1, 1, 'p', 'Q', 'r', 's', 't'), House.fileSegment(2, 2, 2, 1, 'Q', 'u', 'v'));
    w.lose();
    House.due("no file, the root and p", w.rebuild() * 100 + w.told(18) * 10 + w.find(0, 'p'), 21);
    House.sentence("T7: at the greatest DEPTH");
    StubHouse x = House.twoTapes(1);
    House.forge(x, 0, House.fileSegment(1, 1, 1, 1, 'a', 'b', 'c', 'd', 'e'));
    x.lose();
    House.due("files, DEPTH", x.rebuild() * 10 + x.about(5, 2), 15);
  }

  private static void rebuiltCopies() {
    House.sentence("T7: its COPIES by tapes: places where SEGMENTS FIT it, the least one of each tape, two at most");
    int[] s = House.fileSegment(50, 40, 60, 10, 'a');
    int[] version = House.fileSegment(50, 39, 59, 10, 'a');
    int[] size = House.fileSegment(50, 40, 58, 9, 'a');
    int[] id = House.fileSegment(49, 40, 57, 10, 'b');
    int[] stamp = House.fileSegment(50, 40, 56, 10, 'z');
    StubHouse x = House.threeTapes();
    for (int t = 0; t < 3; t++) House.forge(x, t, s, s);
    x.lose();
    x.rebuild();
    House.due("of three tapes", x.about(1, 7) * 10000 + x.copy(1, 0, 0) * 1000 + x.copy(1, 0, 1) * 100 + x.copy(1, 1, 0) * 10 + x.copy(1, 1, 1), 20818);
    House.forge(x, 0, id, version, size);
    House.forge(x, 1, version, s);
    House.forge(x, 2, size, stamp, s);
    x.lose();
    x.rebuild();
    int n = x.find(0, 'a');
    House.due("ID, VERSION, SIZE are looked at", x.about(n, 7) * 100 + x.copy(n, 0, 0) * 10 + x.copy(n, 1, 0), 212);
    House.due("not the STAMP, nor the path", x.copy(n, 0, 1) * 1000 + x.copy(n, 1, 1), (8 + 43) * 1000 + 8 + 42);
    x.spoil(2, 8 + 42 + 29, 1);
    x.lose();
    x.rebuild();
    House.due("nor one that is not GOOD", x.copy(n, 1, 0) * 1000 + x.copy(n, 1, 1), 2000 + 8 + 42 + 43);
    House.forge(x, 0, House.fileSegment(7, 7, 70, 0, 'q'));
    x.lose();
    x.rebuild();
    House.due("of SIZE 0, too", x.about(1, 10) * 100 + x.about(1, 7) * 10 + x.copy(1, 0, 0), 10);
    House.forge(x, 1, House.segment(2, 7, 7, 69, 0, 0));
    x.lose();
    x.rebuild();
    House.due("but no DELETE", x.about(1, 3) * 10 + x.about(1, 7), 71);
  }

  private static void rebuiltNumbers() {
    House.sentence("T7: IDs, STAMPS and VERSIONS go on behind the greatest of FOUND ones, if that is more than they were");
    StubHouse y = House.twoTapes(1);
    House.due("next ID, STAMP, VERSION", y.told(16) * 10000 + y.told(17) * 100 + y.told(19), 20306);
    // by which the greatest one is less than the next one, and what comes of it
    int[][] rows = {{-2, 0}, {-1, 0}, {0, 1}, {1, 2}, {100, 101}};
    for (int[] r : rows) {
      StubHouse x = House.twoTapes(1);
      if (2 + r[0] >= 1) {
        House.forge(x, 0, House.fileSegment(2 + r[0], 1, 1, 1, 'a'));
        x.lose();
        x.rebuild();
        House.due("ID", x.told(16) * 10000 + x.told(17) * 100 + x.told(19), (2 + r[1]) * 10000 + 306);
      }
      x = House.twoTapes(1);
      House.forge(x, 0, House.fileSegment(1, 1, 3 + r[0], 1, 'a'));
      x.lose();
      x.rebuild();
      House.due("STAMP", x.told(16) * 10000 + x.told(17) * 1000 + x.told(19), 20006 + (3 + r[1]) * 1000);
      x = House.twoTapes(1);
      House.forge(x, 0, House.fileSegment(1, 6 + r[0], 1, 1, 'a'));
      x.lose();
      x.rebuild();
      House.due("VERSION", x.told(16) * 10000 + x.told(17) * 1000 + x.told(19), 20000 + 3000 + 6 + r[1]);
    }
    House.sentence("T7: FOUND ones count that are not GOOD, not in THE VIEW, or DELETES");
    StubHouse x = House.twoTapes(1);
    House.forge(x, 1, House.fileSegment(500, 600, 700, 1, 'a'), House.deleteSegment(501, 699));
    x.spoil(1, 8 + 29, 1);
    x.lose();
    House.due("files", x.rebuild(), 0);
    House.due("ID, STAMP, VERSION", x.told(16) * 1000000L + x.told(17) * 1000 + x.told(19), 502701601L);
    House.sentence("T7: the greatest numbers that there are");
    int most = 16777215;
    House.forge(x, 1, House.fileSegment(most, most, most, 1, 'a'));
    x.lose();
    x.rebuild();
    House.due("ID", x.told(16), most + 1);
    House.due("STAMP", x.told(17), most + 1);
    House.due("VERSION", x.told(19), most + 1);
    House.due("they go on", x.make(0, 'b', false) * 100000000L + x.about(2, 3), 200000000L + most + 1);
    House.write(x, 2, 0, 5, 0);
    x.marks(0, 0, 0);
    x.marks(1, 0, 0);
    x.step(40);
    House.due("its SEGMENT is on tape 0, not FOUND: its numbers are above", x.copy(2, 0, 0) * 100000 + x.copy(2, 0, 1) * 10 + x.tape(0, 2), 10650);
    int[] want = House.fileSegment(most + 1, most + 2, most + 1, 5, 'b');
    for (int i = 0; i < 15; i++) House.due("byte " + i, x.byteOf(0, 1065 + i), want[i]);
    House.calm(x);
    x.read(2, 0);
    x.step(40);
    House.due("none FITS there", x.about(2, 10), 4);
    House.due("no DELETE waits for it", x.remove(2) * 10 + x.told(8), 0);
  }

  public static void main(String[] args) {
    lengths();
    crashes();
    blocksBehindACrash();
    blocksBehindALoss();
    copiesBehindACrash();
    crashBetween();
    crashRefused();
    crashStops();
    syncs();
    twoHundred();
    twoHundredRefused();
    blocksAfter();
    marksRefused();
    copiesRefused();
    deletesFound();
    fortyDeletes();
    deletesKept();
    loses();
    rebuildRefused();
    rebuiltSixty();
    rebuiltNames();
    rebuiltCopies();
    rebuiltNumbers();
    House.end();
  }
}
