import java.util.ArrayList;
import java.util.Arrays;
import java.util.Comparator;
import java.util.List;
import java.util.Map;
import java.util.Random;
import java.util.TreeMap;
import java.util.TreeSet;
import java.util.stream.Collectors;

/**
 * Long runs of calls by fixed seeds, on a StubHouse and on a plain model of the document side by side.
 * The model keeps whole copies of its tree for the LOG, looks through tapes anew each time, and keeps a
 * file's bytes apart from its BLOCKS, so that it shares no way of working with the class.
 */
public final class ModelRuns {
  static final int BAD = -1, NONE = -2, ROOM = -3, RECALLING = -4, DAMAGED = -5, STATE = -6, TAKEN = -7, LOST = -8;

  static final class Item {
    boolean dir;
    int over, id, version, touch, size;
    long name;
    byte[] data = new byte[0];
    List<Integer> homes = new ArrayList<>();
    List<int[]> copies = new ArrayList<>();

    Item twin() {
      Item t = new Item();
      t.dir = dir; t.over = over; t.id = id; t.version = version; t.touch = touch; t.size = size; t.name = name;
      t.data = data.clone();
      t.homes = new ArrayList<>(homes);
      for (int[] c : copies) t.copies.add(c.clone());
      return t;
    }

    boolean stub() { return !dir && size > 0 && homes.isEmpty(); }
    int blocks() { return (size + 31) / 32; }
    long in(boolean fast) { return homes.stream().filter(b -> (b < 48) == fast).count(); }
  }

  static final class World {
    TreeMap<Integer, Item> nodes = new TreeMap<>();
    TreeSet<Integer> deletes = new TreeSet<>();

    World twin() {
      World w = new World();
      for (Map.Entry<Integer, Item> e : nodes.entrySet()) w.nodes.put(e.getKey(), e.getValue().twin());
      w.deletes.addAll(deletes);
      return w;
    }
  }

  static final class Seg {
    int tape, place, sort, id, version, stamp, depth, size, length;
    boolean good;
    List<Long> path = new ArrayList<>();
    byte[] all, data;
  }

  static final class Motor {
    int tape = -1, head, act, left, goal;
    Runnable done;

    void begin(int what, int steps, int to, Runnable end) { act = what; left = steps; goal = to; done = end; }
    void mount(int t) { tape = t; head = 0; begin(1, 3, 0, null); }
    void unmount() { begin(2, 2, 0, () -> tape = -1); }
    void wind(int to) { begin(3, (Math.abs(to - head) + 255) / 256, to, null); }
    void go() {
      if (act == 0 || --left > 0) return;
      act = 0;
      head = goal;
      if (done != null) done.run();
    }
    void empty() { tape = -1; head = 0; act = 0; left = 0; }
  }

  static final class Model {
    World w = new World();
    World base;
    List<World> after = new ArrayList<>();
    List<Integer> lengths = new ArrayList<>();
    TreeSet<Integer> keptDeletes = new TreeSet<>();
    TreeSet<Integer> held = new TreeSet<>();
    byte[][] tapes = new byte[6][0];
    int[] generation = new int[6];
    int time, nextId = 1, nextStamp = 1, nextVersion = 1, copiesWanted = 1;
    int[] high = {40, 140}, low = {30, 100};
    boolean[] mode = new boolean[2];
    boolean lost;
    List<Byte> hand = new ArrayList<>();
    List<Integer> recalls = new ArrayList<>();
    List<int[]> queue = new ArrayList<>();
    Motor writer = new Motor(), reader = new Motor();
    int wants = -1, reclaimed = -1, from, writingId;
    Seg parcel;

    Model() {
      Item root = new Item();
      root.dir = true;
      w.nodes.put(0, root);
      base = w.twin();
    }

    // ---- helpers of the tree
    Item file(int n) { Item i = w.nodes.get(n); return i == null || i.dir ? null : i; }
    boolean isDir(int n) { Item i = w.nodes.get(n); return i != null && i.dir; }
    static boolean nameOk(long name) {
      StringBuilder s = new StringBuilder();
      for (int i = 0; i < 8; i++) s.append((char) ((name >>> (8 * i)) & 255));
      return s.toString().matches("[a-z0-9]{1,8}\\x00*");
    }
    int depth(int n) { return n == 0 ? 0 : 1 + depth(w.nodes.get(n).over); }
    boolean inside(int n, int top) { return n == top || (n != 0 && inside(w.nodes.get(n).over, top)); }
    int seek(int over, long name) {
      for (int n : w.nodes.keySet()) if (n > 0 && w.nodes.get(n).over == over && w.nodes.get(n).name == name) return n;
      return -1;
    }
    int newNumber() { for (int n = 1; n < 60; n++) if (!w.nodes.containsKey(n)) return n; return -1; }

    // ---- blocks
    TreeSet<Integer> used() {
      TreeSet<Integer> u = new TreeSet<>();
      for (Item i : w.nodes.values()) for (int b : i.homes) if (!u.add(b)) throw new IllegalStateException("block twice");
      return u;
    }
    List<Integer> free(int store) {
      TreeSet<Integer> u = used();
      List<Integer> f = new ArrayList<>();
      for (int b = store == 0 ? 0 : 48; b < (store == 0 ? 48 : 208); b++) if (!u.contains(b) && !held.contains(b)) f.add(b);
      return f;
    }
    int freeAll() { return free(0).size() + free(1).size(); }
    int least() { List<Integer> f = free(0); return f.isEmpty() ? free(1).get(0) : f.get(0); }
    boolean room(int n) { return free(0).size() >= n || free(1).size() >= n; }
    long usedIn(int store) { return used().stream().filter(b -> (b < 48) == (store == 0)).count(); }

    // ---- log
    void ahead() { if (lengths.size() == 200) keep(); }
    void record(int length) { lengths.add(length); after.add(w.twin()); }
    int keep() {
      int n = lengths.size();
      lengths.clear();
      after.clear();
      base = w.twin();
      keptDeletes = new TreeSet<>(w.deletes);
      held.clear();
      return n;
    }

    // ---- tapes
    static int check(byte[] b, int from, int n) {
      int h = 17;
      for (int i = from; i < from + n; i++) { h = (h ^ Byte.toUnsignedInt(b[i])) * 0x01000193; h ^= h >>> 15; }
      return h;
    }
    static long num(byte[] b, int at, int n) { long v = 0; for (int i = n - 1; i >= 0; i--) v = v << 8 | Byte.toUnsignedLong(b[at + i]); return v; }
    static boolean given(long v) { return v >= 1 && v <= 16777215; }
    Seg parse(int t, int p) {
      byte[] b = tapes[t];
      if (p + 15 > b.length || b[p] != 83) return null;
      Seg s = new Seg();
      s.tape = t; s.place = p; s.sort = b[p + 1];
      if (s.sort != 1 && s.sort != 2) return null;
      if (!given(num(b, p + 2, 4)) || !given(num(b, p + 6, 4)) || !given(num(b, p + 10, 4))) return null;
      s.id = (int) num(b, p + 2, 4); s.version = (int) num(b, p + 6, 4); s.stamp = (int) num(b, p + 10, 4);
      s.depth = Byte.toUnsignedInt(b[p + 14]);
      if (s.sort == 1 ? s.depth < 1 || s.depth > 5 : s.depth != 0) return null;
      int at = p + 15;
      if (at + 8 * s.depth + 6 > b.length) return null;
      for (int i = 0; i < s.depth; i++) { s.path.add(num(b, at, 8)); at += 8; }
      s.size = (int) num(b, at, 2);
      at += 2;
      if (s.size > (s.sort == 1 ? 1024 : 0)) return null;
      if (check(b, p, at - p) != (int) num(b, at, 4)) return null;
      at += 4;
      s.good = true;
      if (s.sort == 1) {
        if (at + s.size + 4 > b.length) return null;
        s.data = Arrays.copyOfRange(b, at, at + s.size);
        s.good = check(b, at, s.size) == (int) num(b, at + s.size, 4);
        at += s.size + 4;
      }
      s.length = at - p;
      s.all = Arrays.copyOfRange(b, p, at);
      return s;
    }
    List<Seg> segs(int t) {
      List<Seg> out = new ArrayList<>();
      for (int p = 8; p < tapes[t].length; ) {
        Seg s = parse(t, p);
        if (s == null) p++; else { out.add(s); p += s.length; }
      }
      return out;
    }
    List<Seg> allSegs() { List<Seg> out = new ArrayList<>(); for (int t = 0; t < 6; t++) out.addAll(segs(t)); return out; }
    Seg at(int t, int place) { for (Seg s : segs(t)) if (s.place == place) return s; return null; }
    boolean fits(Seg s, Item f) { return s != null && s.good && s.sort == 1 && s.id == f.id && s.version == f.version && s.size == f.size; }
    static int[] copyOn(Item f, int t, int place) { for (int[] c : f.copies) if (c[0] == t && (place < 0 || c[1] == place)) return c; return null; }
    boolean live(Seg s, List<Seg> all) {
      if (s == null || !s.good) return false;
      for (Item f : w.nodes.values()) if (!f.dir && copyOn(f, s.tape, s.place) != null && fits(s, f)) return true;
      boolean elsewhere = false;
      for (Seg o : all) {
        if (o.id != s.id) continue;
        elsewhere |= o.tape != s.tape;
        if (o.good && (o.stamp > s.stamp || (o.tape != s.tape && o.stamp == s.stamp))) return false;
      }
      return s.sort == 1 || elsewhere;
    }
    List<Seg> view() {
      TreeMap<Integer, Seg> best = new TreeMap<>();
      for (Seg s : allSegs()) if (s.good && (!best.containsKey(s.id) || best.get(s.id).stamp < s.stamp)) best.put(s.id, s);
      List<Seg> row = best.values().stream().filter(s -> s.sort == 1)
          .sorted(Comparator.<Seg>comparingInt(s -> -s.stamp).thenComparingInt(s -> s.id)).collect(Collectors.toList());
      List<Seg> taken = new ArrayList<>();
      for (Seg s : row) if (taken.stream().noneMatch(o -> begins(o.path, s.path) || begins(s.path, o.path))) taken.add(s);
      taken.sort(Comparator.comparingInt(s -> s.id));
      return taken;
    }
    static boolean begins(List<Long> path, List<Long> with) { return path.size() >= with.size() && path.subList(0, with.size()).equals(with); }

    // ---- calls of the tree
    int make(int over, long name, boolean dir) {
      if (lost) return LOST;
      if (!isDir(over) || !nameOk(name)) return BAD;
      if (seek(over, name) >= 0) return TAKEN;
      if (w.nodes.size() == 60 || depth(over) == 5) return ROOM;
      ahead();
      Item i = new Item();
      i.dir = dir; i.over = over; i.name = name; i.touch = time;
      if (!dir) { i.id = nextId++; i.version = nextVersion++; }
      int n = newNumber();
      w.nodes.put(n, i);
      record(16);
      return n;
    }
    int find(int over, long name) { if (lost) return LOST; if (!isDir(over)) return BAD; int n = seek(over, name); return n < 0 ? NONE : n; }
    int remove(int n) {
      if (lost) return LOST;
      if (n == 0 || !w.nodes.containsKey(n)) return BAD;
      for (int k : w.nodes.keySet()) if (k > 0 && w.nodes.get(k).over == n) return STATE;
      ahead();
      Item i = w.nodes.remove(n);
      held.addAll(i.homes);
      recalls.remove((Integer) n);
      boolean was = !i.dir && (allSegs().stream().anyMatch(s -> s.id == i.id) || (writer.act == 5 && writingId == i.id));
      if (was && w.deletes.size() < 40) w.deletes.add(i.id);
      record(6);
      return 0;
    }
    int move(int n, int over, long name) {
      if (lost) return LOST;
      if (n == 0 || !w.nodes.containsKey(n) || !isDir(over) || !nameOk(name)) return BAD;
      int o = seek(over, name);
      if (o >= 0 && o != n) return TAKEN;
      if (inside(over, n)) return STATE;
      int deepest = 0;
      for (int k : w.nodes.keySet()) if (inside(k, n)) deepest = Math.max(deepest, depth(k) - depth(n));
      if (depth(over) + 1 + deepest > 5) return ROOM;
      ahead();
      w.nodes.get(n).over = over;
      w.nodes.get(n).name = name;
      record(16);
      return 0;
    }
    int feed(int n, long bytes) {
      if (n < 1 || n > 8) return BAD;
      if (hand.size() + n > 256) return ROOM;
      for (int i = 0; i < n; i++) { hand.add((byte) bytes); bytes >>= 8; }
      return hand.size();
    }
    int fill(int n, int v) {
      if (n < 1 || n > 256) return BAD;
      if (hand.size() + n > 256) return ROOM;
      for (int i = 0; i < n; i++) hand.add((byte) (v + i));
      return hand.size();
    }
    int stubAnswer(int n) {
      if (file(n).copies.isEmpty()) return DAMAGED;
      if (!recalls.contains(n)) recalls.add(n);
      return RECALLING;
    }
    int write(int n, int place) {
      if (lost) return LOST;
      Item f = file(n);
      if (f == null || place < 0 || place > f.size || hand.isEmpty()) return BAD;
      int end = place + hand.size();
      if (end > 1024) return ROOM;
      if (f.stub()) return stubAnswer(n);
      TreeSet<Integer> parts = new TreeSet<>();
      for (int p = place; p < end; p++) parts.add(p / 32);
      if (parts.size() > freeAll()) return ROOM;
      ahead();
      List<Integer> old = new ArrayList<>();
      for (int b : parts) {
        int home = least();
        if (b < f.homes.size()) { old.add(f.homes.get(b)); held.add(f.homes.get(b)); f.homes.set(b, home); } else f.homes.add(home);
      }
      f.size = Math.max(f.size, end);
      f.data = Arrays.copyOf(f.data, f.size);
      for (int i = 0; i < hand.size(); i++) f.data[place + i] = hand.get(i);
      hand.clear();
      f.version = nextVersion++; f.touch = time; f.copies.clear();
      record(8 + 4 * f.blocks());
      return f.size;
    }
    int cut(int n, int size) {
      if (lost) return LOST;
      Item f = file(n);
      if (f == null || size < 0 || size > f.size) return BAD;
      if (f.stub() && size > 0) return stubAnswer(n);
      boolean one = size < f.size && size % 32 > 0;
      if (one && freeAll() == 0) return ROOM;
      ahead();
      if (one) { int b = size / 32; int home = least(); held.add(f.homes.get(b)); f.homes.set(b, home); }
      f.size = size;
      while (f.homes.size() > f.blocks()) held.add(f.homes.remove(f.homes.size() - 1));
      f.data = f.data.length < size ? f.data : Arrays.copyOf(f.data, size);
      f.version = nextVersion++; f.touch = time; f.copies.clear();
      if (size == 0) recalls.remove((Integer) n);
      record(8 + 4 * f.blocks());
      return size;
    }
    int read(int n, int place) {
      if (lost) return LOST;
      Item f = file(n);
      if (f == null || place < 0 || place >= f.size) return BAD;
      if (f.stub()) return stubAnswer(n);
      f.touch = time;
      return Byte.toUnsignedInt(f.data[place]);
    }
    int about(int n, int what) {
      if (lost) return LOST;
      if (n < 0 || n > 59 || what < 0 || what > 10) return BAD;
      Item i = w.nodes.get(n);
      if (what == 0) return i == null ? 0 : i.dir ? 1 : 2;
      if (i == null || (i.dir && what > 2)) return BAD;
      int how = i.size == 0 ? 0 : i.stub() ? (i.copies.isEmpty() ? 4 : 3) : i.copies.size() >= copiesWanted ? 2 : 1;
      return new int[] {0, n == 0 ? NONE : i.over, depth(n), i.id, i.size, i.version, i.touch, i.copies.size(),
          (int) i.in(true), (int) i.in(false), how}[what];
    }
    long name(int n) { return lost || n == 0 || !w.nodes.containsKey(n) ? 0 : w.nodes.get(n).name; }
    int block(int n, int i) {
      if (lost) return LOST;
      Item f = file(n);
      if (f == null || i < 0 || i >= f.blocks()) return BAD;
      return f.stub() ? NONE : f.homes.get(i) < 48 ? f.homes.get(i) : f.homes.get(i) + 952;
    }
    int copy(int n, int i, int what) {
      if (lost) return LOST;
      Item f = file(n);
      if (f == null || i < 0 || i > 1 || what < 0 || what > 1) return BAD;
      return i < f.copies.size() ? f.copies.get(i)[what] : NONE;
    }

    // ---- settings, log
    int marks(int s, int h, int l) {
      if (s < 0 || s > 1 || h < 0 || l < 0 || h > (s == 0 ? 48 : 160) || l > h) return BAD;
      int was = high[s];
      high[s] = h; low[s] = l;
      return was;
    }
    int copies(int n) { if (n != 1 && n != 2) return BAD; int was = copiesWanted; copiesWanted = n; return was; }
    int sync() { return lost ? LOST : keep(); }
    void halt() {
      writer.empty(); reader.empty();
      recalls.clear(); queue.clear();
      reclaimed = -1; parcel = null; wants = -1;
      mode[0] = mode[1] = false;
    }
    int crash(int n) {
      if (lost) return LOST;
      if (n < 0) return BAD;
      int k = 0;
      long sum = 0;
      while (k < lengths.size() && sum + lengths.get(k) <= n) sum += lengths.get(k++);
      w = k == 0 ? base.twin() : after.get(k - 1).twin();
      for (Item i : w.nodes.values()) i.touch = time;
      halt();
      keep();
      return k;
    }
    int lose() {
      if (lost) return LOST;
      int files = 0;
      for (Item i : w.nodes.values()) if (!i.dir) files++;
      w = new Model().w;
      halt();
      keep();
      lost = true;
      return files;
    }
    int rebuild() {
      if (!lost) return STATE;
      lost = false;
      int files = 0;
      for (Seg s : view()) if (restore(s)) files++;
      for (Seg s : allSegs()) {
        nextId = Math.max(nextId, s.id + 1); nextStamp = Math.max(nextStamp, s.stamp + 1); nextVersion = Math.max(nextVersion, s.version + 1);
      }
      keep();
      return files;
    }
    boolean restore(Seg s) {
      int over = 0;
      for (int i = 0; i < s.depth; i++) {
        long name = s.path.get(i);
        if (!nameOk(name)) return false;
        int n = seek(over, name);
        boolean last = i == s.depth - 1;
        if (n >= 0 && (last || !isDir(n))) return false;
        if (n < 0) {
          n = newNumber();
          if (n < 0) return false;
          Item x = new Item();
          x.dir = !last; x.over = over; x.name = name; x.touch = time;
          w.nodes.put(n, x);
        }
        over = n;
      }
      Item f = w.nodes.get(over);
      f.id = s.id; f.version = s.version; f.size = s.size;
      for (int t = 0; t < 6 && f.copies.size() < 2; t++)
        for (Seg o : segs(t)) if (fits(o, f)) { f.copies.add(new int[] {t, o.place}); break; }
      return true;
    }

    // ---- steps
    int step(int n) {
      if (n < 1 || n > 500) return BAD;
      for (int i = 0; i < n; i++) {
        time++;
        if (lost) continue;
        wants = -1;
        if (reader.act == 0) readerBegins();
        reader.go();
        if (writer.act == 0) writerBegins();
        writer.go();
        migrate();
      }
      return 0;
    }
    void readerBegins() {
      List<Integer> count = recalls.stream().filter(n -> room(file(n).blocks())).collect(Collectors.toList());
      int want = -1;
      if (!count.isEmpty()) {
        List<Integer> own = count.stream().filter(n -> file(n).copies.get(0)[0] == reader.tape).collect(Collectors.toList());
        if (!own.isEmpty()) {
          List<Integer> on = own.stream().filter(n -> file(n).copies.get(0)[1] >= reader.head).collect(Collectors.toList());
          int n = (on.isEmpty() ? own : on).stream().min(Comparator.comparingInt(k -> file(k).copies.get(0)[1])).get();
          recallFrom(n, file(n).copies.get(0)[1]);
          return;
        }
        want = file(count.get(0)).copies.get(0)[0];
      } else if (reclaimed >= 0 && parcel == null) {
        want = reclaimed;
        if (reader.tape == want) { reclaimOn(); return; }
      }
      if (want < 0) { if (reader.tape >= 0 && reader.tape != reclaimed) reader.unmount(); return; }
      if (reader.tape >= 0) reader.unmount();
      else if (writer.tape == want) wants = want;
      else reader.mount(want);
    }
    void recallFrom(int n, int place) {
      if (reader.head != place) { reader.wind(place); return; }
      int id = file(n).id, t = reader.tape, size = file(n).size;
      reader.begin(4, 1 + (size + 63) / 64, place + 25 + size, () -> {
        Item f = file(n);
        if (!recalls.contains(n) || f == null || f.id != id || !f.stub()) return;
        int[] c = copyOn(f, t, place);
        if (c == null) return;
        Seg s = at(t, place);
        if (!fits(s, f)) {
          ahead();
          f.copies.remove(c);
          if (f.copies.isEmpty()) recalls.remove((Integer) n);
          record(12);
        } else if (room(f.blocks())) {
          ahead();
          List<Integer> free = free(0).size() >= f.blocks() ? free(0) : free(1);
          f.homes.addAll(free.subList(0, f.blocks()));
          f.data = s.data.clone();
          f.touch = time;
          recalls.remove((Integer) n);
          record(8 + 4 * f.blocks());
        }
      });
    }
    void reclaimOn() {
      List<Seg> all = allSegs();
      Seg next = null;
      for (Seg s : segs(reclaimed)) if (next == null && s.place >= from && live(s, all)) next = s;
      if (next == null) { blank(); return; }
      if (reader.head != next.place) { reader.wind(next.place); return; }
      int place = next.place, end = next.place + next.length;
      reader.begin(4, 1 + (next.size + 63) / 64, place + 25 + next.size, () -> {
        from = end;
        Seg s = at(reclaimed, place);
        if (live(s, allSegs())) parcel = s;
      });
    }
    void blank() {
      keep();
      int t = reclaimed;
      tapes[t] = new byte[0];
      generation[t] = (generation[t] + 1) % 65536;
      reader.head = 0;
      reclaimed = -1;
      for (int n : w.nodes.keySet()) {
        Item f = w.nodes.get(n);
        int[] c = copyOn(f, t, -1);
        if (c == null) continue;
        ahead();
        f.copies.remove(c);
        if (f.copies.isEmpty()) recalls.remove((Integer) n);
        record(12);
      }
    }
    Item owner() {
      for (Item f : w.nodes.values()) if (copyOn(f, parcel.tape, parcel.place) != null) return f;
      return null;
    }
    void writerBegins() {
      queue.removeIf(q -> {
        Item f = file(q[0]);
        return f == null || f.id != q[1] || f.size == 0 || f.copies.size() >= copiesWanted || f.stub();
      });
      if (wants >= 0 && wants == writer.tape) { writer.unmount(); return; }
      for (int id : w.deletes) {
        if (!keptDeletes.contains(id)) continue;
        int t = target(21, null);
        if (t < 0) continue;
        if (ready(t)) writeDelete(id);
        return;
      }
      if (parcel != null) {
        int t = target(parcel.length, owner());
        if (t >= 0) { if (ready(t)) writeParcel(); return; }
      }
      for (int[] q : queue) {
        int t = target(25 + 8 * depth(q[0]) + file(q[0]).size, file(q[0]));
        if (t < 0) continue;
        if (ready(t)) writeFile(q[0]);
        return;
      }
    }
    boolean good(int t, int length, Item f) {
      if (t == reader.tape || t == reclaimed || (f != null && copyOn(f, t, -1) != null)) return false;
      return Math.max(8, tapes[t].length) + length <= 6000;
    }
    int target(int length, Item f) {
      if (writer.tape >= 0 && good(writer.tape, length, f)) return writer.tape;
      for (int t = 0; t < 6; t++) if (good(t, length, f)) return t;
      return -1;
    }
    boolean ready(int t) {
      if (writer.tape != t) { if (writer.tape >= 0) writer.unmount(); else writer.mount(t); return false; }
      if (writer.head == tapes[t].length) return true;
      writer.wind(tapes[t].length);
      return false;
    }
    static void put(List<Byte> b, long v, int n) { for (int i = 0; i < n; i++) { b.add((byte) v); v >>= 8; } }
    static byte[] bytes(List<Byte> b) { byte[] r = new byte[b.size()]; for (int i = 0; i < r.length; i++) r[i] = b.get(i); return r; }
    void putCheck(List<Byte> b, int from) { byte[] all = bytes(b); put(b, check(all, from, all.length - from), 4); }
    void writing(List<Byte> seg, int id, java.util.function.IntConsumer end) {
      int t = writer.tape;
      List<Byte> out = new ArrayList<>();
      if (tapes[t].length == 0) { put(out, 84, 1); put(out, t, 1); put(out, generation[t], 2); putCheck(out, 0); }
      int place = tapes[t].length + out.size();
      out.addAll(seg);
      writingId = id;
      writer.begin(5, (out.size() + 63) / 64, tapes[t].length + out.size(), () -> {
        byte[] more = bytes(out);
        byte[] all = Arrays.copyOf(tapes[t], tapes[t].length + more.length);
        System.arraycopy(more, 0, all, tapes[t].length, more.length);
        tapes[t] = all;
        end.accept(place);
      });
    }
    void writeDelete(int id) {
      List<Byte> b = new ArrayList<>();
      put(b, 83, 1); put(b, 2, 1); put(b, id, 4); put(b, 1, 4); put(b, nextStamp++, 4); put(b, 0, 1); put(b, 0, 2); putCheck(b, 0);
      writing(b, id, place -> { ahead(); w.deletes.remove(id); record(6); });
    }
    void writeParcel() {
      List<Byte> b = new ArrayList<>();
      for (byte x : parcel.all) b.add(x);
      int t = writer.tape;
      writing(b, parcel.id, place -> {
        Item f = owner();
        if (f != null) {
          ahead();
          int[] c = copyOn(f, parcel.tape, parcel.place);
          c[0] = t; c[1] = place;
          record(12);
        }
        parcel = null;
      });
    }
    void writeFile(int n) {
      Item f = file(n);
      List<Byte> b = new ArrayList<>();
      put(b, 83, 1); put(b, 1, 1); put(b, f.id, 4); put(b, f.version, 4); put(b, nextStamp++, 4); put(b, depth(n), 1);
      List<Long> path = new ArrayList<>();
      for (int k = n; k != 0; k = w.nodes.get(k).over) path.add(0, w.nodes.get(k).name);
      for (long p : path) put(b, p, 8);
      put(b, f.size, 2);
      putCheck(b, 0);
      int from = b.size();
      for (byte x : f.data) b.add(x);
      putCheck(b, from);
      int id = f.id, version = f.version, t = writer.tape;
      writing(b, id, place -> {
        Item g = file(n);
        if (g == null || g.id != id || g.version != version || g.copies.size() >= 2) return;
        ahead();
        g.copies.add(new int[] {t, place});
        record(12);
      });
    }
    List<Integer> ranked(boolean fast) {
      return w.nodes.keySet().stream().filter(n -> file(n) != null && file(n).in(fast) > 0)
          .sorted(Comparator.comparingInt((Integer n) -> -(time - file(n).touch + 4 * file(n).blocks())).thenComparingInt(n -> n))
          .collect(Collectors.toList());
    }
    void migrate() {
      for (int s = 0; s < 2; s++) { if (usedIn(s) > high[s]) mode[s] = true; if (usedIn(s) <= low[s]) mode[s] = false; }
      if (mode[0] && !free(1).isEmpty()) {
        ahead();
        Item f = file(ranked(true).get(0));
        int b = 0;
        while (f.homes.get(b) >= 48) b++;
        int to = free(1).get(0);
        held.add(f.homes.get(b));
        f.homes.set(b, to);
        record(8);
      } else if (mode[1]) {
        List<Integer> row = ranked(false);
        for (int n : row) {
          if (file(n).copies.size() < copiesWanted) continue;
          ahead();
          held.addAll(file(n).homes);
          file(n).homes.clear();
          file(n).data = new byte[0];
          record(6);
          return;
        }
        long sum = 0, above = usedIn(1) - low[1];
        for (int n : row) {
          if (sum >= above) return;
          sum += file(n).in(false);
          int id = file(n).id;
          if (queue.stream().anyMatch(q -> q[0] == n && q[1] == id)) continue;
          if (queue.size() < 20) queue.add(new int[] {n, id});
          return;
        }
      }
    }
    int reclaim(int t) {
      if (lost) return LOST;
      if (t < 0 || t > 5) return BAD;
      if (reclaimed >= 0 || tapes[t].length == 0) return STATE;
      reclaimed = t;
      from = 8;
      return 0;
    }
    int drive(int d, int what) {
      if (d < 0 || d > 1 || what < 0 || what > 3) return BAD;
      Motor m = d == 0 ? writer : reader;
      return new int[] {m.tape < 0 ? NONE : m.tape, m.tape < 0 ? 0 : m.head, m.act, m.act == 0 ? 0 : m.left}[what];
    }
    int told(int what) {
      if (what < 0 || what > 19) return BAD;
      if (lost && ((what >= 1 && what <= 5) || what == 9 || what == 10 || what == 18)) return 0;
      switch (what) {
        case 0: return time;
        case 1: return (int) usedIn(0);
        case 2: return (int) usedIn(1);
        case 3: return held.size();
        case 4: return free(0).size();
        case 5: return free(1).size();
        case 6: return recalls.size();
        case 7: return queue.size();
        case 8: return w.deletes.size();
        case 9: return lengths.size();
        case 10: return lengths.stream().mapToInt(x -> x).sum();
        case 11: return mode[0] ? 1 : 0;
        case 12: return mode[1] ? 1 : 0;
        case 13: return reclaimed < 0 ? NONE : reclaimed;
        case 14: return lost ? 1 : 0;
        case 15: return hand.size();
        case 16: return nextId;
        case 17: return nextStamp;
        case 18: return w.nodes.size();
        default: return nextVersion;
      }
    }

    // ---- tapes
    int tape(int t, int what) {
      if (t < 0 || t > 5 || what < 0 || what > 4) return BAD;
      List<Seg> s = segs(t), all = allSegs();
      return new int[] {tapes[t].length, generation[t], s.size(), (int) s.stream().filter(x -> !x.good).count(),
          (int) s.stream().filter(x -> live(x, all)).count()}[what];
    }
    int byteOf(int t, int p) { return t < 0 || t > 5 || p < 0 || p >= tapes[t].length ? BAD : Byte.toUnsignedInt(tapes[t][p]); }
    int spoil(int t, int p, int mask) {
      if (byteOf(t, p) == BAD || mask < 1 || mask > 255) return BAD;
      tapes[t][p] ^= mask;
      return byteOf(t, p);
    }
    int segment(int t, int i, int what) {
      if (t < 0 || t > 5 || i < 0 || what < 0 || what > 8) return BAD;
      List<Seg> all = segs(t);
      if (i >= all.size()) return NONE;
      Seg s = all.get(i);
      return new int[] {s.place, s.sort, s.id, s.version, s.stamp, s.depth, s.size, s.good ? 1 : 0, live(s, allSegs()) ? 1 : 0}[what];
    }
    int view(int i, int what) {
      if (i < -1 || what < 0 || what > 4 || (i == -1 && what > 0)) return BAD;
      List<Seg> v = view();
      if (i == -1) return v.size();
      if (i >= v.size()) return NONE;
      Seg s = v.get(i);
      return new int[] {s.id, s.tape, s.place, s.size, s.version}[what];
    }
  }

  // ---- the runs

  static int wrong = 0;
  static long compared = 0;
  static final int[] seen = new int[40];
  static List<String> calls = new ArrayList<>();

  static void due(String call, long got, long want) {
    compared++;
    calls.add(call + " = " + want);
    if (got == want) return;
    wrong++;
    System.out.println(call + " answered " + got + ", due is " + want);
  }

  static final long[] NAMES = {'a', 'b', 'c', '7', 'a' | 'b' << 8, 0x7a7a7a7a7a7a7a7aL, 0x3130L, 'x', 'y', 'z', 'q', 'w'};

  static int pick(Random r, int... of) { return of[r.nextInt(of.length)]; }

  static int anyNode(Random r) { return r.nextInt(20) == 0 ? pick(r, -1, 60, 59, 1000, Integer.MIN_VALUE) : r.nextInt(r.nextInt(4) == 0 ? 60 : 24); }

  static int aFile(Random r, Model m) {
    List<Integer> files = new ArrayList<>();
    for (int n : m.w.nodes.keySet()) if (m.file(n) != null) files.add(n);
    return files.isEmpty() || r.nextInt(25) == 0 ? anyNode(r) : files.get(r.nextInt(files.size()));
  }

  static int aDirectory(Random r, Model m) {
    List<Integer> dirs = new ArrayList<>();
    for (int n : m.w.nodes.keySet()) if (m.isDir(n)) dirs.add(n);
    return dirs.isEmpty() || r.nextInt(15) == 0 ? anyNode(r) : dirs.get(r.nextInt(dirs.size()));
  }

  static long aName(Random r) { return r.nextInt(30) == 0 ? r.nextLong() : r.nextInt(30) == 0 ? pick(r, 0, 65, 0x610061, 0x6100) : NAMES[r.nextInt(NAMES.length)]; }

  static void change(StubHouse x, Model m, Random r, int[] weight) {
    int sum = 0, kind = 0;
    for (int v : weight) sum += v;
    for (int k = r.nextInt(sum); k >= weight[kind]; kind++) k -= weight[kind];
    int n, p, q;
    long name;
    switch (kind) {
      case 0: n = aDirectory(r, m); name = aName(r); boolean d = r.nextInt(4) == 0;
        due("make(" + n + ", " + name + ", " + d + ")", x.make(n, name, d), m.make(n, name, d)); break;
      case 1: n = r.nextInt(3) == 0 ? anyNode(r) : aFile(r, m);
        due("remove(" + n + ")", x.remove(n), m.remove(n)); break;
      case 2: n = anyNode(r); p = aDirectory(r, m); name = aName(r);
        due("move(" + n + ", " + p + ", " + name + ")", x.move(n, p, name), m.move(n, p, name)); break;
      case 3: n = aFile(r, m);
        p = m.hand.isEmpty() || r.nextInt(3) == 0 ? pick(r, 1, 32, 64, 100, 256, 200, 255, 33, 0, 257, -5) : 0;
        q = r.nextInt();
        if (p != 0) due("fill(" + p + ", " + q + ")", x.fill(p, q), m.fill(p, q));
        Item f = m.file(n);
        p = f == null ? 0 : r.nextInt(3) > 0 ? f.size : r.nextInt(f.size + 2) - (r.nextInt(20) == 0 ? 1 : 0);
        due("write(" + n + ", " + p + ")", x.write(n, p), m.write(n, p)); break;
      case 4: n = r.nextInt(10); long bytes = r.nextLong();
        due("feed(" + n + ", " + bytes + ")", x.feed(n, bytes), m.feed(n, bytes)); break;
      case 5: n = aFile(r, m); p = m.file(n) == null ? 3 : r.nextInt(m.file(n).size + 2) - r.nextInt(2); if (r.nextInt(4) == 0) p &= ~31;
        due("cut(" + n + ", " + p + ")", x.cut(n, p), m.cut(n, p)); break;
      case 6: n = aFile(r, m); p = m.file(n) == null ? 0 : r.nextInt(m.file(n).size + 1) - (r.nextInt(20) == 0 ? 1 : 0);
        due("read(" + n + ", " + p + ")", x.read(n, p), m.read(n, p)); break;
      case 7: n = pick(r, 0, 1, 1, r.nextInt(4) - 1); p = r.nextInt(n == 0 ? 50 : 60) - r.nextInt(2); q = p - r.nextInt(20);
        due("marks(" + n + ", " + p + ", " + q + ")", x.marks(n, p, q), m.marks(n, p, q)); break;
      case 8: n = pick(r, 1, 2, 2, 0, 3);
        due("copies(" + n + ")", x.copies(n), m.copies(n)); break;
      case 9: due("sync()", x.sync(), m.sync()); break;
      case 10: n = pick(r, 0, r.nextInt(3000), r.nextInt(100), Integer.MAX_VALUE, r.nextInt(600), -r.nextInt(2));
        due("crash(" + n + ")", x.crash(n), m.crash(n)); break;
      case 11: due("lose()", x.lose(), m.lose()); break;
      case 12: due("rebuild()", x.rebuild(), m.rebuild()); break;
      case 13: n = pick(r, 1, 1, 2, 5, 9, 30, 90, 0, 501, -1);
        due("step(" + n + ")", x.step(n), m.step(n)); break;
      case 14: n = pick(r, 0, 0, 1, 2, r.nextInt(8) - 1);
        due("reclaim(" + n + ")", x.reclaim(n), m.reclaim(n)); break;
      case 15: n = r.nextInt(7); p = m.byteOf(n, 0) == BAD ? r.nextInt(9) : r.nextInt(m.tapes[n].length + 1); q = pick(r, 1, 128, 255, 64, 0, 256);
        due("spoil(" + n + ", " + p + ", " + q + ")", x.spoil(n, p, q), m.spoil(n, p, q)); break;
      default: n = aDirectory(r, m); name = aName(r);
        due("find(" + n + ", " + name + ")", x.find(n, name), m.find(n, name));
    }
  }

  static void look(StubHouse x, Model m, Random r) {
    for (int i = -1; i <= 20; i++) due("told(" + i + ")", x.told(i), m.told(i));
    for (int d = -1; d <= 2; d++) for (int i = -1; i <= 4; i++) due("drive(" + d + ", " + i + ")", x.drive(d, i), m.drive(d, i));
    if (r.nextInt(3) > 0) return;
    for (int n = -1; n <= 60; n++) {
      for (int i = -1; i <= 11; i++) due("about(" + n + ", " + i + ")", x.about(n, i), m.about(n, i));
      due("name(" + n + ")", x.name(n), m.name(n));
      for (int i = -1; i <= 2; i++) for (int k = -1; k <= 2; k++) due("copy(" + n + ", " + i + ", " + k + ")", x.copy(n, i, k), m.copy(n, i, k));
      for (int i = -1; i <= 32; i++) due("block(" + n + ", " + i + ")", x.block(n, i), m.block(n, i));
    }
    for (int t = -1; t <= 6; t++) {
      for (int i = -1; i <= 5; i++) due("tape(" + t + ", " + i + ")", x.tape(t, i), m.tape(t, i));
      int i = r.nextInt(30) - 1;
      for (int k = -1; k <= 9; k++) due("segment(" + t + ", " + i + ", " + k + ")", x.segment(t, i, k), m.segment(t, i, k));
    }
    int i = r.nextInt(20) - 3;
    for (int k = -1; k <= 5; k++) due("view(" + i + ", " + k + ")", x.view(i, k), m.view(i, k));
    due("view(-1, 0)", x.view(-1, 0), m.view(-1, 0));
  }

  static void lookAtAll(StubHouse x, Model m) {
    for (int t = -1; t <= 6; t++) {
      for (int p = -1; p <= (t < 0 || t > 5 ? 3 : m.tapes[t].length); p++) due("byteOf(" + t + ", " + p + ")", x.byteOf(t, p), m.byteOf(t, p));
      for (int i = 0; i <= m.tape(t, 2); i++) for (int k = 0; k <= 8; k++) due("segment(" + t + ", " + i + ", " + k + ")", x.segment(t, i, k), m.segment(t, i, k));
    }
    for (int i = -1; i <= m.view(-1, 0); i++) for (int k = 0; k <= 4; k++) due("view(" + i + ", " + k + ")", x.view(i, k), m.view(i, k));
    for (int n = 0; n < 60; n++) {
      Item f = m.file(n);
      for (int p = 0; f != null && p < f.size; p++) due("read(" + n + ", " + p + ")", x.read(n, p), m.read(n, p));
    }
  }

  // make remove move write feed cut read marks copies sync crash lose rebuild step reclaim spoil find
  static final int[][] PROFILES = {
    {12, 3, 3, 30, 2, 4, 12, 1, 1, 2, 1, 0, 1, 20, 1, 1, 2},
    {12, 2, 2, 30, 1, 3, 14, 2, 1, 3, 0, 0, 0, 30, 6, 0, 1},
    {10, 5, 2, 24, 1, 3, 10, 2, 1, 4, 2, 0, 1, 30, 4, 3, 1},
    {10, 4, 2, 24, 1, 3, 10, 1, 1, 4, 2, 1, 6, 30, 4, 1, 1},
    {20, 8, 8, 30, 3, 10, 10, 0, 1, 0, 1, 0, 1, 4, 0, 0, 3},
    {10, 10, 2, 24, 1, 2, 20, 1, 2, 8, 0, 1, 6, 40, 8, 2, 1},
    {14, 4, 6, 40, 2, 6, 6, 0, 1, 0, 0, 0, 1, 6, 0, 0, 1},
  };

  static void makeFile(StubHouse x, Model m, int over, String name, int size) {
    long number = 0;
    for (int i = name.length() - 1; i >= 0; i--) number = number << 8 | name.charAt(i);
    int n = m.make(over, number, false);
    due("make(" + over + ", " + number + ", false)", x.make(over, number, false), n);
    for (int at = 0; at < size; at += 256) {
      int count = Math.min(256, size - at);
      due("fill(" + count + ", " + at + ")", x.fill(count, at), m.fill(count, at));
      due("write(" + n + ", " + at + ")", x.write(n, at), m.write(n, at));
    }
  }

  static void step(StubHouse x, Model m, int n) { due("step(" + n + ")", x.step(n), m.step(n)); }
  static void sync(StubHouse x, Model m) { due("sync()", x.sync(), m.sync()); }
  static void marks(StubHouse x, Model m, int store, int high, int low) {
    due("marks(" + store + ", " + high + ", " + low + ")", x.marks(store, high, low), m.marks(store, high, low));
  }

  /** Runs begin at a new object, or where one of the document's limits is near. */
  static void start(StubHouse x, Model m, int kind) {
    switch (kind) {
      case 1: // all BLOCKS are of files
        for (int f = 0; f < 7; f++) {
          makeFile(x, m, 0, "f" + f, f < 6 ? 1024 : 500);
          sync(x, m);
        }
        break;
      case 2: // 60 nodes, but for two
        for (int f = 0; f < 57; f++) makeFile(x, m, 0, "f" + f, f % 3);
        break;
      case 3: // 45 files on tape, so that more than 40 DELETES can come to wait
        marks(x, m, 0, 0, 0);
        marks(x, m, 1, 0, 0);
        for (int f = 0; f < 45; f++) makeFile(x, m, 0, "f" + f, 1);
        step(x, m, 400);
        sync(x, m);
        for (int n = 1; n <= 38; n++) due("remove(" + n + ")", x.remove(n), m.remove(n));
        break;
      case 4: // a tape is almost full
        marks(x, m, 0, 0, 0);
        marks(x, m, 1, 0, 0);
        for (int f = 0; f < 6; f++) {
          makeFile(x, m, 0, "f" + f, f < 5 ? 1024 : 560);
          step(x, m, 90);
          sync(x, m);
        }
        break;
      case 5: // 195 RECORDS are not KEPT
        makeFile(x, m, 0, "f", 40);
        for (int i = 2; i < 195; i++) due("move(1, 0, 102)", x.move(1, 0, 102), m.move(1, 0, 102));
        break;
      default:
    }
  }

  static void run(int seed) {
    Random r = new Random(seed);
    StubHouse x = new StubHouse();
    Model m = new Model();
    calls = new ArrayList<>();
    int[] profile = PROFILES[seed % PROFILES.length];
    start(x, m, seed / PROFILES.length % 12 - 6);
    if (r.nextInt(4) > 0) due("marks(0, 6, 2)", x.marks(0, 6, 2), m.marks(0, 6, 2));
    if (r.nextInt(4) > 0) due("marks(1, 10, 3)", x.marks(1, 10, 3), m.marks(1, 10, 3));
    for (int i = 0; i < 380 && wrong == 0; i++) {
      change(x, m, r, profile);
      if (r.nextInt(8) == 0) look(x, m, r);
    }
    if (wrong == 0) lookAtAll(x, m);
    if (wrong > 0) {
      System.out.println("seed " + seed);
      for (String c : calls) if (!c.startsWith("told") && !c.startsWith("about") && !c.startsWith("drive") && !c.startsWith("block") && !c.startsWith("copy(") && !c.startsWith("name")) System.out.println("  " + c);
    }
    note(m);
  }

  static void note(Model m) {
    for (int t = 0; t < 6; t++) { seen[0] += m.generation[t]; seen[1] += m.tapes[t].length; }
    seen[2] += m.nextStamp;
    for (Item i : m.w.nodes.values()) if (i.stub()) seen[i.copies.isEmpty() ? 3 : 4]++;
  }

  public static void main(String[] args) {
    int runs = args.length > 0 ? Integer.parseInt(args[0]) : 168;
    for (int seed = 0; seed < runs && wrong == 0; seed++) run(seed);
    System.out.println(compared + " answers compared; blanked " + seen[0] + ", bytes " + seen[1] + ", stamps " + seen[2] + ", damaged " + seen[3] + ", stubs " + seen[4]);
    if (wrong > 0) System.exit(1);
  }
}
