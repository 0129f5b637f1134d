import java.util.Arrays;

/** A house for files on a fast store, a slow store, and six tapes. */
public final class StubHouse {
    public static final int BAD = -1, NONE = -2, ROOM = -3, RECALLING = -4, DAMAGED = -5, STATE = -6, TAKEN = -7, LOST = -8;

    private static final int NODES = 60;
    private static final int DEEPEST = 5;
    private static final int DIRECTORY = 1;
    private static final int FILE = 2;
    private static final int MOST_SIZE = 1024;
    private static final int BLOCK_BYTES = 32;
    private static final int MOST_BLOCKS = MOST_SIZE / BLOCK_BYTES;
    private static final int MOST_COPIES = 2;
    private static final int AT_HAND = 256;

    private static final int FAST = 0;
    private static final int SLOW = 1;
    private static final int FAST_BLOCKS = 48;
    private static final int SLOW_BLOCKS = 160;
    private static final int ALL_BLOCKS = FAST_BLOCKS + SLOW_BLOCKS;

    private static final int MOST_RECORDS = 200;
    private static final int MOST_DELETES = 40;
    private static final int MOST_WAITING = 20;

    private static final int TAPES = 6;
    private static final int TAPE_BYTES = 6000;
    private static final int LABEL_BYTES = 8;
    private static final int FILE_SORT = 1;
    private static final int DELETE_SORT = 2;
    private static final int DELETE_BYTES = 21;
    private static final int FILE_BYTES = 25;
    private static final int MOST_SEGMENT = FILE_BYTES + 8 * DEEPEST + MOST_SIZE;
    private static final int SEGMENTS = (TAPE_BYTES - LABEL_BYTES) / DELETE_BYTES;
    private static final int MOST_NUMBER = 16777215;

    private static final int MOUNTING = 1;
    private static final int UNMOUNTING = 2;
    private static final int WINDING = 3;
    private static final int READING = 4;
    private static final int WRITING = 5;

    private final Tree tree;
    private final Stores stores;
    private final Log log;
    private final Changes changes;
    private final Library library;
    private final Reader reader;
    private final Writer writer;
    private final Migrator migrator;
    private final byte[] hand = new byte[AT_HAND];
    private int handCount;
    private boolean lost;

    public StubHouse() {
        tree = new Tree();
        stores = new Stores();
        log = new Log(tree, stores);
        changes = new Changes(tree, stores, log);
        library = new Library(tree);
        reader = new Reader(library, changes);
        writer = new Writer(library, changes, reader);
        migrator = new Migrator(changes, writer);
    }

    // ---- the tree

    public int make(int over, long name, boolean directory) {
        if (lost) return LOST;
        if (!tree.isDirectory(over) || !Tree.isName(name)) return BAD;
        if (tree.seek(over, name) >= 0) return TAKEN;
        if (tree.leastAbsent() < 0 || tree.depthOf(over) >= DEEPEST) return ROOM;
        return changes.create(over, name, directory);
    }

    public int find(int over, long name) {
        if (lost) return LOST;
        if (!tree.isDirectory(over)) return BAD;
        int n = tree.seek(over, name);
        return n < 0 ? NONE : n;
    }

    public int remove(int node) {
        if (lost) return LOST;
        if (node == 0 || !tree.isThere(node)) return BAD;
        if (tree.hasNodes(node)) return STATE;
        changes.erase(node, mustWriteDelete(node));
        return 0;
    }

    private boolean mustWriteDelete(int node) {
        if (!tree.isFile(node)) return false;
        library.scanAll();
        int id = tree.nodes[node].id;
        return library.isFound(id) || writer.isWriting(id);
    }

    public int move(int node, int over, long name) {
        if (lost) return LOST;
        if (node == 0 || !tree.isThere(node) || !tree.isDirectory(over) || !Tree.isName(name)) return BAD;
        int other = tree.seek(over, name);
        if (other >= 0 && other != node) return TAKEN;
        if (tree.isWithin(over, node)) return STATE;
        if (tree.depthOf(over) + 1 + tree.heightOf(node) > DEEPEST) return ROOM;
        changes.rename(node, over, name);
        return 0;
    }

    public int feed(int n, long bytes) {
        if (n < 1 || n > 8) return BAD;
        if (n > AT_HAND - handCount) return ROOM;
        for (int i = 0; i < n; i++) {
            hand[handCount + i] = (byte) (bytes >>> (8 * i));
        }
        handCount += n;
        return handCount;
    }

    public int fill(int n, int v) {
        if (n < 1 || n > AT_HAND) return BAD;
        if (n > AT_HAND - handCount) return ROOM;
        for (int i = 0; i < n; i++) {
            hand[handCount + i] = (byte) (v + i);
        }
        handCount += n;
        return handCount;
    }

    public int write(int file, int place) {
        if (lost) return LOST;
        if (!tree.isFile(file)) return BAD;
        Node f = tree.nodes[file];
        if (place < 0 || place > f.size || handCount == 0) return BAD;
        if (place + handCount > MOST_SIZE) return ROOM;
        if (f.isStub()) return askedOfStub(file);
        int wanted = (place + handCount - 1) / BLOCK_BYTES - place / BLOCK_BYTES + 1;
        if (wanted > stores.free[FAST] + stores.free[SLOW]) return ROOM;
        changes.overwrite(file, place, hand, handCount);
        handCount = 0;
        return f.size;
    }

    private int askedOfStub(int file) {
        if (tree.nodes[file].copyCount == 0) return DAMAGED;
        changes.askRecall(file);
        return RECALLING;
    }

    public int cut(int file, int size) {
        if (lost) return LOST;
        if (!tree.isFile(file)) return BAD;
        Node f = tree.nodes[file];
        if (size < 0 || size > f.size) return BAD;
        if (size > 0 && f.isStub()) return askedOfStub(file);
        boolean wanted = size < f.size && size % BLOCK_BYTES != 0;
        if (wanted && stores.free[FAST] + stores.free[SLOW] == 0) return ROOM;
        changes.shorten(file, size);
        return size;
    }

    public int read(int file, int place) {
        if (lost) return LOST;
        if (!tree.isFile(file)) return BAD;
        Node f = tree.nodes[file];
        if (place < 0 || place >= f.size) return BAD;
        if (f.isStub()) return askedOfStub(file);
        f.touch = tree.time;
        return stores.byteAt(f.home[place / BLOCK_BYTES], place % BLOCK_BYTES);
    }

    public int about(int node, int what) {
        if (lost) return LOST;
        if (node < 0 || node >= NODES || what < 0 || what > 10) return BAD;
        Node n = tree.nodes[node];
        if (what == 0) return n.kind;
        if (n.kind == 0) return BAD;
        if (what == 1) return node == 0 ? NONE : n.over;
        if (what == 2) return tree.depthOf(node);
        return n.kind == FILE ? aboutFile(n, what) : BAD;
    }

    private int aboutFile(Node f, int what) {
        switch (what) {
            case 3: return f.id;
            case 4: return f.size;
            case 5: return f.version;
            case 6: return f.touch;
            case 7: return f.copyCount;
            case 8: return f.inFast;
            case 9: return f.inSlow;
            default: return howItIs(f);
        }
    }

    private int howItIs(Node f) {
        if (f.size == 0) return 0;
        if (f.isStub()) return f.copyCount == 0 ? 4 : 3;
        return tree.hasItsCopies(f) ? 2 : 1;
    }

    public long name(int node) {
        if (lost || node == 0 || !tree.isThere(node)) return 0L;
        return tree.nodes[node].title;
    }

    public int block(int file, int i) {
        if (lost) return LOST;
        if (!tree.isFile(file)) return BAD;
        Node f = tree.nodes[file];
        if (i < 0 || i >= f.blocks()) return BAD;
        if (f.isStub()) return NONE;
        int home = f.home[i];
        return home < FAST_BLOCKS ? home : 1000 + home - FAST_BLOCKS;
    }

    public int copy(int file, int i, int what) {
        if (lost) return LOST;
        if (!tree.isFile(file) || i < 0 || i >= MOST_COPIES || what < 0 || what > 1) return BAD;
        Node f = tree.nodes[file];
        if (i >= f.copyCount) return NONE;
        return what == 0 ? f.copyTape[i] : f.copyPlace[i];
    }

    // ---- settings

    public int marks(int store, int high, int low) {
        if (store != FAST && store != SLOW) return BAD;
        int all = store == FAST ? FAST_BLOCKS : SLOW_BLOCKS;
        if (high < 0 || high > all || low < 0 || low > high) return BAD;
        int was = migrator.high[store];
        migrator.high[store] = high;
        migrator.low[store] = low;
        return was;
    }

    public int copies(int n) {
        if (n < 1 || n > MOST_COPIES) return BAD;
        int was = tree.copiesWanted;
        tree.copiesWanted = n;
        return was;
    }

    // ---- LOG, crashes, losses

    public int sync() {
        return lost ? LOST : log.keepAll();
    }

    public int crash(int n) {
        if (lost) return LOST;
        if (n < 0) return BAD;
        int happened = log.undoBehind(n);
        stopAll();
        return happened;
    }

    private void stopAll() {
        reader.stop();
        writer.stop();
        migrator.stop();
        changes.recallCount = 0;
    }

    public int lose() {
        if (lost) return LOST;
        int files = tree.count(FILE);
        tree.clear();
        log.clear();
        stores.freeAll();
        stopAll();
        lost = true;
        return files;
    }

    public int rebuild() {
        if (!lost) return STATE;
        library.scanAll();
        library.lookOver();
        lost = false;
        return library.restoreTree();
    }

    // ---- steps

    public int step(int n) {
        if (n < 1 || n > 500) return BAD;
        for (int i = 0; i < n; i++) {
            tree.time++;
            if (lost) continue;
            library.scanAll();
            reader.wants = -1;
            if (reader.act == 0) reader.choose(writer.mounted);
            if (reader.spend()) reader.finish();
            if (writer.act == 0) writer.choose();
            if (writer.spend()) writer.finish();
            migrator.work();
        }
        return 0;
    }

    public int reclaim(int tape) {
        if (lost) return LOST;
        if (tape < 0 || tape >= TAPES) return BAD;
        if (reader.reclaimed >= 0 || library.tapes[tape].length == 0) return STATE;
        reader.beginReclaim(tape);
        return 0;
    }

    public int drive(int d, int what) {
        if (d < 0 || d > 1) return BAD;
        Drive asked = d == 0 ? writer : reader;
        switch (what) {
            case 0: return asked.mounted < 0 ? NONE : asked.mounted;
            case 1: return asked.head;
            case 2: return asked.act;
            case 3: return asked.left;
            default: return BAD;
        }
    }

    public int told(int what) {
        if (what >= 1 && what <= 5) return lost ? 0 : toldOfStores(what);
        switch (what) {
            case 0: return tree.time;
            case 6: return changes.recallCount;
            case 7: return writer.queued;
            case 8: return log.deletes;
            case 9: return log.count;
            case 10: return log.bytes;
            case 11: return migrator.fastMode ? 1 : 0;
            case 12: return migrator.slowMode ? 1 : 0;
            case 13: return reader.reclaimed < 0 ? NONE : reader.reclaimed;
            case 14: return lost ? 1 : 0;
            case 15: return handCount;
            case 16: return tree.nextId;
            case 17: return library.nextStamp;
            case 18: return lost ? 0 : tree.count(FILE) + tree.count(DIRECTORY);
            case 19: return tree.nextVersion;
            default: return BAD;
        }
    }

    private int toldOfStores(int what) {
        switch (what) {
            case 1: return stores.used[FAST];
            case 2: return stores.used[SLOW];
            case 3: return stores.heldCount;
            case 4: return stores.free[FAST];
            default: return stores.free[SLOW];
        }
    }

    // ---- tapes

    public int tape(int t, int what) {
        if (t < 0 || t >= TAPES) return BAD;
        library.scanAll();
        Tape asked = library.tapes[t];
        switch (what) {
            case 0: return asked.length;
            case 1: return asked.generation;
            case 2: return asked.found;
            case 3: return asked.found - asked.countGood();
            case 4: return library.countLive(t);
            default: return BAD;
        }
    }

    public int byteOf(int t, int place) {
        if (!library.hasByte(t, place)) return BAD;
        return library.tapes[t].byteAt(place);
    }

    public int spoil(int t, int place, int mask) {
        if (!library.hasByte(t, place) || mask < 1 || mask > 255) return BAD;
        library.turnBits(t, place, mask);
        return library.tapes[t].byteAt(place);
    }

    public int segment(int t, int i, int what) {
        if (t < 0 || t >= TAPES || i < 0 || what < 0 || what > 8) return BAD;
        library.scanAll();
        Tape asked = library.tapes[t];
        if (i >= asked.found) return NONE;
        int place = asked.places[i];
        switch (what) {
            case 0: return place;
            case 1: return asked.sortAt(place);
            case 2: return asked.ids[i];
            case 3: return asked.versionAt(place);
            case 4: return asked.stamps[i];
            case 5: return asked.depthAt(place);
            case 6: return asked.sizeAt(place);
            case 7: return asked.good[i] ? 1 : 0;
            default: return library.isLive(t, i) ? 1 : 0;
        }
    }

    public int view(int i, int what) {
        if (i < -1 || what < 0 || what > 4 || (i == -1 && what != 0)) return BAD;
        library.scanAll();
        library.lookOver();
        if (i == -1) return library.viewCount;
        if (i >= library.viewCount) return NONE;
        Tape on = library.tapes[library.viewTape[i]];
        int place = on.places[library.viewIndex[i]];
        switch (what) {
            case 0: return library.viewId[i];
            case 1: return library.viewTape[i];
            case 2: return place;
            case 3: return on.sizeAt(place);
            default: return on.versionAt(place);
        }
    }

    /** A place in the tree: none, a directory, or a file with its blocks and copies. */
    private static final class Node {
        int kind;
        int over;
        long title;
        int id;
        int size;
        int version;
        int touch;
        int copyCount;
        final int[] copyTape = new int[MOST_COPIES];
        final int[] copyPlace = new int[MOST_COPIES];
        final int[] home = new int[MOST_BLOCKS];
        int inFast;
        int inSlow;

        Node() {
            Arrays.fill(home, -1);
        }

        void clear() {
            kind = 0;
            over = 0;
            title = 0L;
            id = 0;
            size = 0;
            version = 0;
            touch = 0;
            copyCount = 0;
            Arrays.fill(home, -1);
            inFast = 0;
            inSlow = 0;
        }

        void become(Node other) {
            kind = other.kind;
            over = other.over;
            title = other.title;
            id = other.id;
            size = other.size;
            version = other.version;
            touch = other.touch;
            copyCount = other.copyCount;
            System.arraycopy(other.copyTape, 0, copyTape, 0, MOST_COPIES);
            System.arraycopy(other.copyPlace, 0, copyPlace, 0, MOST_COPIES);
            System.arraycopy(other.home, 0, home, 0, MOST_BLOCKS);
            inFast = other.inFast;
            inSlow = other.inSlow;
        }

        int blocks() {
            return (size + BLOCK_BYTES - 1) / BLOCK_BYTES;
        }

        boolean isStub() {
            return size > 0 && inFast + inSlow == 0;
        }

        void setHome(int i, int block) {
            countHome(home[i], -1);
            countHome(block, 1);
            home[i] = block;
        }

        private void countHome(int block, int by) {
            if (block < 0) return;
            if (block < FAST_BLOCKS) inFast += by;
            else inSlow += by;
        }

        boolean hasCopyOn(int tape) {
            for (int i = 0; i < copyCount; i++) {
                if (copyTape[i] == tape) return true;
            }
            return false;
        }

        int copyAt(int tape, int place) {
            for (int i = 0; i < copyCount; i++) {
                if (copyTape[i] == tape && copyPlace[i] == place) return i;
            }
            return -1;
        }

        void addCopy(int tape, int place) {
            if (copyCount >= MOST_COPIES) return;
            copyTape[copyCount] = tape;
            copyPlace[copyCount] = place;
            copyCount++;
        }

        void takeCopy(int i) {
            if (i < 0 || i >= copyCount) return;
            for (int k = i; k + 1 < copyCount; k++) {
                copyTape[k] = copyTape[k + 1];
                copyPlace[k] = copyPlace[k + 1];
            }
            copyCount--;
        }
    }

    /** The nodes, and the numbers that are given to files. */
    private static final class Tree {
        final Node[] nodes = new Node[NODES];
        int time;
        int nextId = 1;
        int nextVersion = 1;
        int copiesWanted = 1;

        Tree() {
            for (int n = 0; n < NODES; n++) {
                nodes[n] = new Node();
            }
            nodes[0].kind = DIRECTORY;
        }

        void clear() {
            for (int n = 1; n < NODES; n++) {
                nodes[n].clear();
            }
        }

        static boolean isName(long title) {
            if (title == 0L) return false;
            long rest = title;
            for (int i = 0; i < 8 && rest != 0L; i++) {
                int c = (int) (rest & 255L);
                boolean letter = c >= 'a' && c <= 'z';
                boolean digit = c >= '0' && c <= '9';
                if (!letter && !digit) return false;
                rest >>>= 8;
            }
            return true;
        }

        boolean isThere(int n) {
            return n >= 0 && n < NODES && nodes[n].kind != 0;
        }

        boolean isDirectory(int n) {
            return isThere(n) && nodes[n].kind == DIRECTORY;
        }

        boolean isFile(int n) {
            return isThere(n) && nodes[n].kind == FILE;
        }

        int count(int kind) {
            int sum = 0;
            for (int n = 0; n < NODES; n++) {
                if (nodes[n].kind == kind) sum++;
            }
            return sum;
        }

        int seek(int over, long title) {
            for (int n = 1; n < NODES; n++) {
                Node node = nodes[n];
                if (node.kind != 0 && node.over == over && node.title == title) return n;
            }
            return -1;
        }

        int leastAbsent() {
            for (int n = 1; n < NODES; n++) {
                if (nodes[n].kind == 0) return n;
            }
            return -1;
        }

        int depthOf(int n) {
            int depth = 0;
            int at = n;
            while (at > 0 && depth < NODES) {
                at = nodes[at].over;
                depth++;
            }
            return depth;
        }

        boolean isWithin(int n, int top) {
            int at = n;
            for (int i = 0; i < NODES && at > 0; i++) {
                if (at == top) return true;
                at = nodes[at].over;
            }
            return false;
        }

        int heightOf(int top) {
            int height = 0;
            int base = depthOf(top);
            for (int n = 1; n < NODES; n++) {
                if (nodes[n].kind != 0 && isWithin(n, top)) height = Math.max(height, depthOf(n) - base);
            }
            return height;
        }

        boolean hasNodes(int over) {
            for (int n = 1; n < NODES; n++) {
                if (nodes[n].kind != 0 && nodes[n].over == over) return true;
            }
            return false;
        }

        boolean hasItsCopies(Node f) {
            return f.copyCount >= copiesWanted;
        }

        int ownerOf(int tape, int place) {
            for (int n = 1; n < NODES; n++) {
                if (nodes[n].kind == FILE && nodes[n].copyAt(tape, place) >= 0) return n;
            }
            return -1;
        }

        void settle(int n, int over, long title, int kind) {
            Node node = nodes[n];
            node.clear();
            node.kind = kind;
            node.over = over;
            node.title = title;
            node.touch = time;
        }

        void touchAll() {
            for (int n = 1; n < NODES; n++) {
                if (nodes[n].kind == FILE) nodes[n].touch = time;
            }
        }
    }

    /** The blocks of both stores: those of FAST, then those of SLOW. */
    private static final class Stores {
        private static final int IS_FREE = 0;
        private static final int IS_USED = 1;
        private static final int IS_HELD = 2;

        private final byte[] bytes = new byte[ALL_BLOCKS * BLOCK_BYTES];
        private final int[] state = new int[ALL_BLOCKS];
        final int[] free = new int[2];
        final int[] used = new int[2];
        int heldCount;

        Stores() {
            free[FAST] = FAST_BLOCKS;
            free[SLOW] = SLOW_BLOCKS;
        }

        private static int storeOf(int block) {
            return block < FAST_BLOCKS ? FAST : SLOW;
        }

        boolean hasRoomFor(int blocks) {
            return blocks <= free[FAST] || blocks <= free[SLOW];
        }

        int giveOf(int store) {
            int end = store == FAST ? FAST_BLOCKS : ALL_BLOCKS;
            for (int b = store == FAST ? 0 : FAST_BLOCKS; b < end; b++) {
                if (state[b] == IS_FREE) {
                    claim(b);
                    return b;
                }
            }
            return -1;
        }

        int giveAny() {
            int b = giveOf(FAST);
            return b >= 0 ? b : giveOf(SLOW);
        }

        void claim(int block) {
            if (block < 0 || block >= ALL_BLOCKS || state[block] != IS_FREE) return;
            state[block] = IS_USED;
            free[storeOf(block)]--;
            used[storeOf(block)]++;
        }

        void hold(int block) {
            if (block < 0 || block >= ALL_BLOCKS || state[block] != IS_USED) return;
            state[block] = IS_HELD;
            used[storeOf(block)]--;
            heldCount++;
        }

        void freeHeld() {
            for (int b = 0; b < ALL_BLOCKS && heldCount > 0; b++) {
                if (state[b] == IS_HELD) {
                    state[b] = IS_FREE;
                    free[b < FAST_BLOCKS ? FAST : SLOW]++;
                    heldCount--;
                }
            }
        }

        void freeAll() {
            Arrays.fill(state, IS_FREE);
            free[FAST] = FAST_BLOCKS;
            free[SLOW] = SLOW_BLOCKS;
            used[FAST] = 0;
            used[SLOW] = 0;
            heldCount = 0;
        }

        int byteAt(int block, int i) {
            if (block < 0 || block >= ALL_BLOCKS) return 0;
            return bytes[block * BLOCK_BYTES + i] & 255;
        }

        /** Puts bytes into a block from a place of it on; the caller keeps them within the block. */
        void put(byte[] source, int from, int block, int at, int length) {
            if (block < 0 || block >= ALL_BLOCKS || length <= 0) return;
            System.arraycopy(source, from, bytes, block * BLOCK_BYTES + at, length);
        }

        /** Makes a block begin as another one does; the rest of it is 0. */
        void putBlock(int old, int block, int length) {
            if (block < 0 || block >= ALL_BLOCKS) return;
            int start = block * BLOCK_BYTES;
            for (int i = start; i < start + BLOCK_BYTES; i++) {
                bytes[i] = 0;
            }
            if (old >= 0) put(bytes, old * BLOCK_BYTES, block, 0, length);
        }

        void takeOut(int block, byte[] target, int at, int length) {
            if (block < 0 || block >= ALL_BLOCKS || length <= 0) return;
            System.arraycopy(bytes, block * BLOCK_BYTES, target, at, length);
        }
    }

    /** Records that are not kept, each with its node as it was before, and the deletes that wait. */
    private static final class Log {
        private final Tree tree;
        private final Stores stores;
        private final Node[] before = new Node[MOST_RECORDS];
        private final int[] nodeOf = new int[MOST_RECORDS];
        private final int[] lengthOf = new int[MOST_RECORDS];
        // An ID that the record made wait as a delete; less than 0: one that waits no more by it.
        private final int[] deleteOf = new int[MOST_RECORDS];
        int count;
        int bytes;
        private final int[] deleteId = new int[MOST_DELETES];
        private final boolean[] deleteKept = new boolean[MOST_DELETES];
        int deletes;

        Log(Tree tree, Stores stores) {
            this.tree = tree;
            this.stores = stores;
            for (int i = 0; i < MOST_RECORDS; i++) {
                before[i] = new Node();
            }
        }

        void clear() {
            count = 0;
            bytes = 0;
            deletes = 0;
        }

        /** To be called behind all refusals, ahead of the change: it may do a SYNC. */
        void add(int node, int length, int delete) {
            if (count >= MOST_RECORDS) keepAll();
            if (node >= 0) before[count].become(tree.nodes[node]);
            nodeOf[count] = node;
            lengthOf[count] = length;
            deleteOf[count] = delete;
            count++;
            bytes += length;
            if (delete > 0) noteDelete(delete);
            if (delete < 0) forgetDelete(-delete);
        }

        int keepAll() {
            int kept = count;
            count = 0;
            bytes = 0;
            for (int i = 0; i < deletes; i++) {
                deleteKept[i] = true;
            }
            stores.freeHeld();
            return kept;
        }

        private int deletePlace(int id) {
            int at = 0;
            while (at < deletes && deleteId[at] < id) {
                at++;
            }
            return at;
        }

        private void noteDelete(int id) {
            if (deletes >= MOST_DELETES) return;
            int at = deletePlace(id);
            for (int i = deletes; i > at; i--) {
                deleteId[i] = deleteId[i - 1];
                deleteKept[i] = deleteKept[i - 1];
            }
            deleteId[at] = id;
            deleteKept[at] = false;
            deletes++;
        }

        private void forgetDelete(int id) {
            int at = deletePlace(id);
            if (at >= deletes || deleteId[at] != id) return;
            for (int i = at; i + 1 < deletes; i++) {
                deleteId[i] = deleteId[i + 1];
                deleteKept[i] = deleteKept[i + 1];
            }
            deletes--;
        }

        /** The least ID whose delete waits and may be written, or 0. */
        int firstKeptDelete() {
            for (int i = 0; i < deletes; i++) {
                if (deleteKept[i]) return deleteId[i];
            }
            return 0;
        }

        /** Of a crash: leaves what the first n bytes tell, and keeps that: how many records they are. */
        int undoBehind(int n) {
            int there = 0;
            int rest = n;
            while (there < count && lengthOf[there] <= rest) {
                rest -= lengthOf[there];
                there++;
            }
            for (int i = count - 1; i >= there; i--) {
                undo(i);
            }
            keepAll();
            claimHomes();
            tree.touchAll();
            return there;
        }

        private void undo(int i) {
            if (nodeOf[i] >= 0) tree.nodes[nodeOf[i]].become(before[i]);
            if (deleteOf[i] > 0) forgetDelete(deleteOf[i]);
            if (deleteOf[i] < 0) noteDelete(-deleteOf[i]);
        }

        private void claimHomes() {
            stores.freeAll();
            for (int n = 1; n < NODES; n++) {
                for (int b = 0; b < MOST_BLOCKS; b++) {
                    stores.claim(tree.nodes[n].home[b]);
                }
            }
        }
    }

    /** Every change that is logged; all refusals have been looked at before. */
    private static final class Changes {
        final Tree tree;
        final Stores stores;
        final Log log;
        final int[] recalls = new int[NODES];
        int recallCount;

        Changes(Tree tree, Stores stores, Log log) {
            this.tree = tree;
            this.stores = stores;
            this.log = log;
        }

        int create(int over, long title, boolean directory) {
            int n = tree.leastAbsent();
            if (n < 0) return ROOM;
            log.add(n, 16, 0);
            tree.settle(n, over, title, directory ? DIRECTORY : FILE);
            if (!directory) {
                tree.nodes[n].id = tree.nextId++;
                tree.nodes[n].version = tree.nextVersion++;
            }
            return n;
        }

        void erase(int n, boolean deleteWaits) {
            Node node = tree.nodes[n];
            boolean noted = deleteWaits && log.deletes < MOST_DELETES;
            log.add(n, 6, noted ? node.id : 0);
            holdFrom(node, 0);
            forgetRecall(n);
            node.clear();
        }

        void rename(int n, int over, long title) {
            log.add(n, 16, 0);
            tree.nodes[n].over = over;
            tree.nodes[n].title = title;
        }

        void overwrite(int n, int place, byte[] source, int length) {
            Node f = tree.nodes[n];
            int end = place + length;
            int size = Math.max(f.size, end);
            log.add(n, lengthWith(size), 0);
            f.size = size;
            for (int b = place / BLOCK_BYTES; b * BLOCK_BYTES < end && b < MOST_BLOCKS; b++) {
                rehouse(f, b, BLOCK_BYTES);
                int from = Math.max(place, b * BLOCK_BYTES);
                int to = Math.min(end, (b + 1) * BLOCK_BYTES);
                stores.put(source, from - place, f.home[b], from - b * BLOCK_BYTES, to - from);
            }
            renew(f);
        }

        void shorten(int n, int size) {
            Node f = tree.nodes[n];
            log.add(n, lengthWith(size), 0);
            int tail = size % BLOCK_BYTES;
            if (size < f.size && tail != 0) rehouse(f, size / BLOCK_BYTES, tail);
            f.size = size;
            holdFrom(f, f.blocks());
            renew(f);
            if (size == 0) forgetRecall(n);
        }

        private static int lengthWith(int size) {
            return 8 + 4 * ((size + BLOCK_BYTES - 1) / BLOCK_BYTES);
        }

        private void rehouse(Node f, int b, int length) {
            int old = f.home[b];
            int block = stores.giveAny();
            stores.putBlock(old, block, length);
            stores.hold(old);
            f.setHome(b, block);
        }

        private void holdFrom(Node f, int first) {
            for (int b = first; b < MOST_BLOCKS; b++) {
                stores.hold(f.home[b]);
                f.setHome(b, -1);
            }
        }

        private void renew(Node f) {
            f.version = tree.nextVersion++;
            f.copyCount = 0;
            f.touch = tree.time;
        }

        /** A stub's bytes, which stand in a row from a place on, come back into one store. */
        void recall(int n, byte[] source, int from) {
            Node f = tree.nodes[n];
            log.add(n, lengthWith(f.size), 0);
            int blocks = f.blocks();
            int store = blocks <= stores.free[FAST] ? FAST : SLOW;
            for (int b = 0; b < blocks && b < MOST_BLOCKS; b++) {
                int block = stores.giveOf(store);
                stores.putBlock(-1, block, 0);
                stores.put(source, from + b * BLOCK_BYTES, block, 0, Math.min(BLOCK_BYTES, f.size - b * BLOCK_BYTES));
                f.setHome(b, block);
            }
            f.touch = tree.time;
            forgetRecall(n);
        }

        void sink(int n) {
            Node f = tree.nodes[n];
            for (int b = 0; b < MOST_BLOCKS; b++) {
                int old = f.home[b];
                if (old >= 0 && old < FAST_BLOCKS) {
                    log.add(n, 8, 0);
                    int block = stores.giveOf(SLOW);
                    stores.putBlock(old, block, BLOCK_BYTES);
                    stores.hold(old);
                    f.setHome(b, block);
                    return;
                }
            }
        }

        void release(int n) {
            log.add(n, 6, 0);
            holdFrom(tree.nodes[n], 0);
        }

        void noteCopy(int n, int tape, int place) {
            log.add(n, 12, 0);
            tree.nodes[n].addCopy(tape, place);
        }

        void putCopy(int n, int i, int tape, int place) {
            if (i < 0 || i >= MOST_COPIES) return;
            log.add(n, 12, 0);
            tree.nodes[n].copyTape[i] = tape;
            tree.nodes[n].copyPlace[i] = place;
        }

        void dropCopy(int n, int i) {
            log.add(n, 12, 0);
            tree.nodes[n].takeCopy(i);
            if (tree.nodes[n].copyCount == 0) forgetRecall(n);
        }

        void dropCopiesOn(int tape) {
            for (int n = 1; n < NODES; n++) {
                for (int i = MOST_COPIES - 1; i >= 0; i--) {
                    Node node = tree.nodes[n];
                    if (i < node.copyCount && node.copyTape[i] == tape) dropCopy(n, i);
                }
            }
        }

        void noteDeleteWritten(int id) {
            log.add(-1, 6, -id);
        }

        private int recallPlace(int n) {
            for (int i = 0; i < recallCount; i++) {
                if (recalls[i] == n) return i;
            }
            return -1;
        }

        boolean isRecalled(int n) {
            return recallPlace(n) >= 0;
        }

        void askRecall(int n) {
            if (isRecalled(n) || recallCount >= NODES) return;
            recalls[recallCount] = n;
            recallCount++;
        }

        private void forgetRecall(int n) {
            int at = recallPlace(n);
            if (at < 0) return;
            for (int i = at; i + 1 < recallCount; i++) {
                recalls[i] = recalls[i + 1];
            }
            recallCount--;
        }
    }

    /** The bytes of one tape, and the segments that are found in them. */
    private static final class Tape {
        final byte[] bytes = new byte[TAPE_BYTES];
        int length;
        int generation;
        private int scannedTo = LABEL_BYTES;
        private boolean hasGaps;
        int found;
        final int[] places = new int[SEGMENTS];
        final int[] ids = new int[SEGMENTS];
        final int[] stamps = new int[SEGMENTS];
        final boolean[] good = new boolean[SEGMENTS];

        static int checkOf(byte[] bytes, int from, int to) {
            int h = 17;
            for (int i = from; i < to; i++) {
                h = (h ^ (bytes[i] & 255)) * 0x01000193;
                h = h ^ (h >>> 15);
            }
            return h;
        }

        static int numberAt(byte[] bytes, int place, int count) {
            int number = 0;
            for (int i = 0; i < count; i++) {
                number |= (bytes[place + i] & 255) << (8 * i);
            }
            return number;
        }

        /** Puts a number down, the lowest byte first: the place behind it. */
        static int putNumber(byte[] bytes, int place, int count, long number) {
            for (int i = 0; i < count; i++) {
                bytes[place + i] = (byte) (number >>> (8 * i));
            }
            return place + count;
        }

        int byteAt(int place) {
            return bytes[place] & 255;
        }

        int sortAt(int place) {
            return byteAt(place + 1);
        }

        int versionAt(int place) {
            return numberAt(bytes, place + 6, 4);
        }

        int depthAt(int place) {
            return bytes[place + 14] & 255;
        }

        int sizeAt(int place) {
            return numberAt(bytes, place + 15 + 8 * depthAt(place), 2);
        }

        int dataPlace(int place) {
            return place + 21 + 8 * depthAt(place);
        }

        int wholeLength(int place) {
            int size = sortAt(place) == FILE_SORT ? sizeAt(place) + 4 : 0;
            return 21 + 8 * depthAt(place) + size;
        }

        long titleAt(int place, int i) {
            long title = 0L;
            for (int k = 7; k >= 0; k--) {
                title = (title << 8) | byteAt(place + 15 + 8 * i + k);
            }
            return title;
        }

        int countGood() {
            int sum = 0;
            for (int i = 0; i < found; i++) {
                if (good[i]) sum++;
            }
            return sum;
        }

        int indexAt(int place) {
            for (int i = 0; i < found; i++) {
                if (places[i] == place) return i;
            }
            return -1;
        }

        void scan() {
            while (scannedTo < length) {
                if (found < SEGMENTS && isSegmentAt(scannedTo)) {
                    note(scannedTo);
                    scannedTo += Math.max(1, wholeLength(scannedTo));
                } else {
                    hasGaps = true;
                    scannedTo++;
                }
            }
        }

        private void note(int place) {
            places[found] = place;
            ids[found] = numberAt(bytes, place + 2, 4);
            stamps[found] = numberAt(bytes, place + 10, 4);
            good[found] = hasGoodData(place);
            found++;
        }

        private boolean hasGoodData(int place) {
            if (sortAt(place) == DELETE_SORT) return true;
            int from = dataPlace(place);
            int to = from + sizeAt(place);
            return checkOf(bytes, from, to) == numberAt(bytes, to, 4);
        }

        private boolean isSegmentAt(int place) {
            if (length - place < DELETE_BYTES || byteAt(place) != 83) return false;
            int sort = sortAt(place);
            if (sort != FILE_SORT && sort != DELETE_SORT) return false;
            if (!isGivenAt(place + 2) || !isGivenAt(place + 6) || !isGivenAt(place + 10)) return false;
            int depth = depthAt(place);
            boolean file = sort == FILE_SORT;
            if (file ? depth < 1 || depth > DEEPEST : depth != 0) return false;
            int check = place + 17 + 8 * depth;
            if (check + 4 > length) return false;
            if (sizeAt(place) > (file ? MOST_SIZE : 0)) return false;
            if (place + wholeLength(place) > length) return false;
            return checkOf(bytes, place, check) == numberAt(bytes, check, 4);
        }

        private boolean isGivenAt(int place) {
            int number = numberAt(bytes, place, 4);
            return number >= 1 && number <= MOST_NUMBER;
        }

        void forgetScan() {
            scannedTo = LABEL_BYTES;
            hasGaps = false;
            found = 0;
        }

        /** What was found stays so when bytes come behind it; a gap could become a segment by them. */
        void noteGrowth() {
            if (hasGaps) forgetScan();
        }
    }

    /** All tapes, what is live on them, and THE VIEW. */
    private static final class Library {
        final Tree tree;
        final Tape[] tapes = new Tape[TAPES];
        int nextStamp = 1;
        private boolean viewed;
        int viewCount;
        final int[] viewId = new int[TAPES * SEGMENTS];
        final int[] viewTape = new int[TAPES * SEGMENTS];
        final int[] viewIndex = new int[TAPES * SEGMENTS];
        private final int[] order = new int[TAPES * SEGMENTS];

        Library(Tree tree) {
            this.tree = tree;
            for (int t = 0; t < TAPES; t++) {
                tapes[t] = new Tape();
            }
        }

        boolean hasByte(int t, int place) {
            return t >= 0 && t < TAPES && place >= 0 && place < tapes[t].length;
        }

        void turnBits(int t, int place, int mask) {
            tapes[t].bytes[place] ^= (byte) mask;
            tapes[t].forgetScan();
            viewed = false;
        }

        void wipe(int t) {
            tapes[t].length = 0;
            tapes[t].generation = (tapes[t].generation + 1) & 65535;
            tapes[t].forgetScan();
            viewed = false;
        }

        /** Writes behind the tape's end, with its label if it is blank: the place. */
        int append(int t, byte[] source, int length) {
            Tape tape = tapes[t];
            if (tape.length == 0) {
                tape.bytes[0] = 84;
                tape.bytes[1] = (byte) t;
                Tape.putNumber(tape.bytes, 2, 2, tape.generation);
                Tape.putNumber(tape.bytes, 4, 4, Tape.checkOf(tape.bytes, 0, 4));
                tape.length = LABEL_BYTES;
            }
            int place = tape.length;
            if (length > TAPE_BYTES - place) return place;
            System.arraycopy(source, 0, tape.bytes, place, length);
            tape.length += length;
            tape.noteGrowth();
            viewed = false;
            return place;
        }

        void scanAll() {
            for (int t = 0; t < TAPES; t++) {
                tapes[t].scan();
            }
        }

        boolean isFound(int id) {
            for (int t = 0; t < TAPES; t++) {
                for (int i = 0; i < tapes[t].found; i++) {
                    if (tapes[t].ids[i] == id) return true;
                }
            }
            return false;
        }

        boolean fits(int t, int i, Node f) {
            Tape tape = tapes[t];
            if (i < 0 || i >= tape.found || !tape.good[i]) return false;
            int place = tape.places[i];
            if (tape.sortAt(place) != FILE_SORT) return false;
            return tape.ids[i] == f.id && tape.versionAt(place) == f.version && tape.sizeAt(place) == f.size;
        }

        boolean isLive(int t, int i) {
            if (i < 0 || i >= tapes[t].found || !tapes[t].good[i]) return false;
            return isCopyOfFile(t, i) || isLatest(t, i);
        }

        private boolean isCopyOfFile(int t, int i) {
            int place = tapes[t].places[i];
            for (int n = 1; n < NODES; n++) {
                Node f = tree.nodes[n];
                if (f.kind == FILE && f.copyAt(t, place) >= 0 && fits(t, i, f)) return true;
            }
            return false;
        }

        private boolean isLatest(int t, int i) {
            int id = tapes[t].ids[i];
            int stamp = tapes[t].stamps[i];
            boolean elsewhere = false;
            for (int u = 0; u < TAPES; u++) {
                Tape tape = tapes[u];
                for (int k = 0; k < tape.found; k++) {
                    if (tape.ids[k] != id) continue;
                    if (u != t) elsewhere = true;
                    if (!tape.good[k]) continue;
                    if (tape.stamps[k] > stamp || (u != t && tape.stamps[k] == stamp)) return false;
                }
            }
            return elsewhere || tapes[t].sortAt(tapes[t].places[i]) == FILE_SORT;
        }

        int countLive(int t) {
            int sum = 0;
            for (int i = 0; i < tapes[t].found; i++) {
                if (isLive(t, i)) sum++;
            }
            return sum;
        }

        /** The first live segment from a place on, or -1. */
        int nextLive(int t, int from) {
            for (int i = 0; i < tapes[t].found; i++) {
                if (tapes[t].places[i] >= from && isLive(t, i)) return i;
            }
            return -1;
        }

        /** Makes THE VIEW, if a tape was changed since it was made. */
        void lookOver() {
            if (viewed) return;
            viewCount = 0;
            for (int t = 0; t < TAPES; t++) {
                for (int i = 0; i < tapes[t].found; i++) {
                    if (tapes[t].good[i]) offer(t, i);
                }
            }
            dropDeletes();
            dropClashes();
            viewed = true;
        }

        private void offer(int t, int i) {
            int id = tapes[t].ids[i];
            int at = viewPlace(id);
            if (at < viewCount && viewId[at] == id) {
                if (tapes[t].stamps[i] <= viewStamp(at)) return;
            } else {
                System.arraycopy(viewId, at, viewId, at + 1, viewCount - at);
                System.arraycopy(viewTape, at, viewTape, at + 1, viewCount - at);
                System.arraycopy(viewIndex, at, viewIndex, at + 1, viewCount - at);
                viewCount++;
            }
            viewId[at] = id;
            viewTape[at] = t;
            viewIndex[at] = i;
        }

        private int viewPlace(int id) {
            int low = 0;
            int high = viewCount;
            // The way is halved each time, so 32 times are more than enough.
            for (int i = 0; i < 32 && low < high; i++) {
                int middle = (low + high) >>> 1;
                if (viewId[middle] < id) low = middle + 1;
                else high = middle;
            }
            return low;
        }

        private int viewStamp(int v) {
            return tapes[viewTape[v]].stamps[viewIndex[v]];
        }

        private int placeInView(int v) {
            return tapes[viewTape[v]].places[viewIndex[v]];
        }

        private void dropDeletes() {
            int kept = 0;
            for (int v = 0; v < viewCount; v++) {
                if (tapes[viewTape[v]].sortAt(placeInView(v)) == FILE_SORT) {
                    keepInView(v, kept);
                    kept++;
                }
            }
            viewCount = kept;
        }

        private void keepInView(int v, int at) {
            viewId[at] = viewId[v];
            viewTape[at] = viewTape[v];
            viewIndex[at] = viewIndex[v];
        }

        private void dropClashes() {
            sortByStamps();
            int taken = 0;
            for (int k = 0; k < viewCount; k++) {
                int v = order[k];
                if (!clashesWithTaken(v, taken)) {
                    order[taken] = v;
                    taken++;
                }
            }
            sortTaken(taken);
            for (int k = 0; k < taken; k++) {
                keepInView(order[k], k);
            }
            viewCount = taken;
        }

        private void sortByStamps() {
            for (int v = 0; v < viewCount; v++) {
                int stamp = viewStamp(v);
                int at = v;
                while (at > 0 && viewStamp(order[at - 1]) < stamp) {
                    order[at] = order[at - 1];
                    at--;
                }
                order[at] = v;
            }
        }

        private void sortTaken(int taken) {
            for (int k = 1; k < taken; k++) {
                int v = order[k];
                int at = k;
                while (at > 0 && order[at - 1] > v) {
                    order[at] = order[at - 1];
                    at--;
                }
                order[at] = v;
            }
        }

        private boolean clashesWithTaken(int v, int taken) {
            for (int k = 0; k < taken; k++) {
                if (doPathsClash(v, order[k])) return true;
            }
            return false;
        }

        private boolean doPathsClash(int v, int w) {
            Tape one = tapes[viewTape[v]];
            Tape other = tapes[viewTape[w]];
            int here = placeInView(v);
            int there = placeInView(w);
            int shorter = Math.min(one.depthAt(here), other.depthAt(there));
            for (int i = 0; i < shorter; i++) {
                if (one.titleAt(here, i) != other.titleAt(there, i)) return false;
            }
            return true;
        }

        /** Makes the tree from THE VIEW: how many files. */
        int restoreTree() {
            int files = 0;
            for (int v = 0; v < viewCount; v++) {
                if (restoreFile(v)) files++;
            }
            passNumbers();
            return files;
        }

        private boolean restoreFile(int v) {
            Tape tape = tapes[viewTape[v]];
            int place = placeInView(v);
            int last = tape.depthAt(place) - 1;
            int over = 0;
            for (int i = 0; i < last && over >= 0; i++) {
                over = restoreDirectory(over, tape.titleAt(place, i));
            }
            if (over < 0) return false;
            long title = tape.titleAt(place, last);
            int n = tree.leastAbsent();
            if (n < 0 || !Tree.isName(title) || tree.seek(over, title) >= 0) return false;
            tree.settle(n, over, title, FILE);
            Node f = tree.nodes[n];
            f.id = viewId[v];
            f.version = tape.versionAt(place);
            f.size = tape.sizeAt(place);
            restoreCopies(f);
            return true;
        }

        /** The directory of this name, made if it is not there; -1 if it cannot be. */
        private int restoreDirectory(int over, long title) {
            if (!Tree.isName(title)) return -1;
            int n = tree.seek(over, title);
            if (n >= 0) return tree.isDirectory(n) ? n : -1;
            n = tree.leastAbsent();
            if (n >= 0) tree.settle(n, over, title, DIRECTORY);
            return n;
        }

        private void restoreCopies(Node f) {
            for (int t = 0; t < TAPES; t++) {
                for (int i = 0; i < tapes[t].found; i++) {
                    if (fits(t, i, f)) {
                        f.addCopy(t, tapes[t].places[i]);
                        break;
                    }
                }
            }
        }

        private void passNumbers() {
            for (int t = 0; t < TAPES; t++) {
                Tape tape = tapes[t];
                for (int i = 0; i < tape.found; i++) {
                    tree.nextId = Math.max(tree.nextId, tape.ids[i] + 1);
                    nextStamp = Math.max(nextStamp, tape.stamps[i] + 1);
                    tree.nextVersion = Math.max(tree.nextVersion, tape.versionAt(tape.places[i]) + 1);
                }
            }
        }
    }

    /** What both drives do alike. */
    private abstract static class Drive {
        int mounted = -1;
        int head;
        int act;
        int left;
        private int goal;

        /** What reading or writing does with the last of its steps. */
        abstract void finish();

        void beginMounting(int t) {
            mounted = t;
            head = 0;
            begin(MOUNTING, 3, 0);
        }

        void beginUnmounting() {
            begin(UNMOUNTING, 2, 0);
        }

        void beginWinding(int place) {
            begin(WINDING, (Math.abs(place - head) + 255) / 256, place);
        }

        void begin(int what, int steps, int place) {
            act = what;
            left = steps;
            goal = place;
        }

        /** The act has a step less to go: whether it was the last one of reading or writing. */
        boolean spend() {
            if (act == 0) return false;
            left--;
            if (left > 0) return false;
            int done = act;
            left = 0;
            act = 0;
            head = goal;
            if (done == UNMOUNTING) mounted = -1;
            return done == READING || done == WRITING;
        }

        void takeOff() {
            mounted = -1;
            begin(0, 0, 0);
            head = 0;
        }
    }

    /** The drive that reads for recalls, and for the tape that is being reclaimed. */
    private static final class Reader extends Drive {
        private final Library library;
        private final Changes changes;
        int wants = -1;
        private int readNode = -1;
        private int readId;
        private int readPlace;
        private int readEnd;
        int reclaimed = -1;
        private int from;
        final byte[] parcel = new byte[MOST_SEGMENT];
        int parcelLength;
        int parcelPlace;

        Reader(Library library, Changes changes) {
            this.library = library;
            this.changes = changes;
        }

        void stop() {
            takeOff();
            wants = -1;
            reclaimed = -1;
            parcelLength = 0;
        }

        void beginReclaim(int t) {
            reclaimed = t;
            from = LABEL_BYTES;
            parcelLength = 0;
        }

        void choose(int writerTape) {
            int wanted = -1;
            int first = firstRecall();
            if (first >= 0) {
                int next = nearestRecall();
                if (next >= 0) {
                    goOnRecalling(next);
                    return;
                }
                wanted = first;
            } else if (reclaimed >= 0 && parcelLength == 0) {
                if (mounted == reclaimed) {
                    int i = library.nextLive(reclaimed, from);
                    if (i >= 0) goOnReclaiming(i);
                    else blankReclaimed();
                    return;
                }
                wanted = reclaimed;
            }
            changeTape(wanted, writerTape);
        }

        private boolean counts(Node f) {
            return f.copyCount > 0 && changes.stores.hasRoomFor(f.blocks());
        }

        /** The tape of the first recall that counts, or -1. */
        private int firstRecall() {
            for (int i = 0; i < changes.recallCount; i++) {
                Node f = changes.tree.nodes[changes.recalls[i]];
                if (counts(f)) return f.copyTape[0];
            }
            return -1;
        }

        /** Of the recalls of the drive's tape the one that comes next from HEAD on, or -1. */
        private int nearestRecall() {
            int best = -1;
            int bestWay = 0;
            for (int i = 0; i < changes.recallCount; i++) {
                int n = changes.recalls[i];
                Node f = changes.tree.nodes[n];
                if (!counts(f) || f.copyTape[0] != mounted) continue;
                int place = f.copyPlace[0];
                // What lies before HEAD comes behind all that lies from it on.
                int way = place >= head ? place : place + 2 * TAPE_BYTES;
                if (best < 0 || way < bestWay) {
                    best = n;
                    bestWay = way;
                }
            }
            return best;
        }

        private void goOnRecalling(int n) {
            Node f = changes.tree.nodes[n];
            int place = f.copyPlace[0];
            if (head != place) {
                beginWinding(place);
                return;
            }
            readNode = n;
            readId = f.id;
            beginReading(place, f.size);
        }

        private void beginReading(int place, int size) {
            readPlace = place;
            begin(READING, 1 + (size + 63) / 64, place + FILE_BYTES + size);
        }

        private void goOnReclaiming(int i) {
            Tape tape = library.tapes[reclaimed];
            int place = tape.places[i];
            if (head != place) {
                beginWinding(place);
                return;
            }
            readNode = -1;
            readEnd = place + tape.wholeLength(place);
            beginReading(place, tape.sizeAt(place));
        }

        private void blankReclaimed() {
            int t = reclaimed;
            changes.log.keepAll();
            library.wipe(t);
            head = 0;
            reclaimed = -1;
            changes.dropCopiesOn(t);
        }

        private void changeTape(int wanted, int writerTape) {
            if (wanted < 0) {
                if (mounted >= 0 && mounted != reclaimed) beginUnmounting();
            } else if (mounted >= 0) {
                beginUnmounting();
            } else if (wanted == writerTape) {
                wants = wanted;
            } else {
                beginMounting(wanted);
            }
        }

        void finish() {
            if (readNode >= 0) endRecall();
            else endReclaim();
        }

        private void endRecall() {
            Node f = changes.tree.nodes[readNode];
            if (f.id != readId || !f.isStub() || !changes.isRecalled(readNode)) return;
            int copy = f.copyAt(mounted, readPlace);
            if (copy < 0) return;
            Tape tape = library.tapes[mounted];
            if (!library.fits(mounted, tape.indexAt(readPlace), f)) {
                changes.dropCopy(readNode, copy);
            } else if (changes.stores.hasRoomFor(f.blocks())) {
                changes.recall(readNode, tape.bytes, tape.dataPlace(readPlace));
            }
        }

        private void endReclaim() {
            if (reclaimed < 0) return;
            Tape tape = library.tapes[reclaimed];
            from = readEnd;
            if (!library.isLive(reclaimed, tape.indexAt(readPlace))) return;
            parcelPlace = readPlace;
            parcelLength = Math.min(tape.wholeLength(readPlace), MOST_SEGMENT);
            System.arraycopy(tape.bytes, readPlace, parcel, 0, parcelLength);
        }
    }

    /** The drive that writes deletes, what is reclaimed, and the files that wait. */
    private static final class Writer extends Drive {
        private static final int OF_DELETE = 0;
        private static final int OF_PARCEL = 1;
        private static final int OF_FILE = 2;

        private final Library library;
        private final Changes changes;
        private final Reader reader;
        private final int[] queueNode = new int[MOST_WAITING];
        private final int[] queueId = new int[MOST_WAITING];
        int queued;
        private final byte[] buffer = new byte[MOST_SEGMENT];
        private int bufferLength;
        private int task;
        private int taskNode;
        private int taskId;
        private int taskVersion;

        Writer(Library library, Changes changes, Reader reader) {
            this.library = library;
            this.changes = changes;
            this.reader = reader;
        }

        void stop() {
            takeOff();
            queued = 0;
        }

        boolean isWriting(int id) {
            return act == WRITING && taskId == id;
        }

        boolean isQueued(int n) {
            for (int i = 0; i < queued; i++) {
                if (queueNode[i] == n && queueId[i] == changes.tree.nodes[n].id) return true;
            }
            return false;
        }

        void enqueue(int n) {
            if (queued >= MOST_WAITING) return;
            queueNode[queued] = n;
            queueId[queued] = changes.tree.nodes[n].id;
            queued++;
        }

        private void dropFinished() {
            int kept = 0;
            for (int i = 0; i < queued; i++) {
                Node f = changes.tree.nodes[queueNode[i]];
                boolean same = f.kind == FILE && f.id == queueId[i];
                if (same && f.size > 0 && !f.isStub() && !changes.tree.hasItsCopies(f)) {
                    queueNode[kept] = queueNode[i];
                    queueId[kept] = queueId[i];
                    kept++;
                }
            }
            queued = kept;
        }

        void choose() {
            dropFinished();
            if (mounted >= 0 && reader.wants == mounted) {
                beginUnmounting();
                return;
            }
            if (goForDelete() || goForParcel()) return;
            goForFile();
        }

        private boolean goForDelete() {
            int id = changes.log.firstKeptDelete();
            if (id == 0) return false;
            int target = targetFor(DELETE_BYTES, -1);
            if (target < 0) return false;
            if (isAtEndOf(target)) beginDelete(id);
            return true;
        }

        private boolean goForParcel() {
            if (reader.parcelLength == 0) return false;
            int owner = changes.tree.ownerOf(reader.reclaimed, reader.parcelPlace);
            int target = targetFor(reader.parcelLength, owner);
            if (target < 0) return false;
            if (isAtEndOf(target)) beginParcel();
            return true;
        }

        private void goForFile() {
            for (int i = 0; i < queued; i++) {
                int n = queueNode[i];
                int length = FILE_BYTES + 8 * changes.tree.depthOf(n) + changes.tree.nodes[n].size;
                int target = targetFor(length, n);
                if (target >= 0) {
                    if (isAtEndOf(target)) beginFile(n);
                    return;
                }
            }
        }

        private boolean willDo(int t, int length, int node) {
            if (t == reader.mounted || t == reader.reclaimed) return false;
            if (node >= 0 && changes.tree.nodes[node].hasCopyOn(t)) return false;
            int label = library.tapes[t].length == 0 ? LABEL_BYTES : 0;
            return library.tapes[t].length + label + length <= TAPE_BYTES;
        }

        /** The drive's own tape, if that will do, else the least that will, else -1. */
        private int targetFor(int length, int node) {
            if (mounted >= 0 && willDo(mounted, length, node)) return mounted;
            for (int t = 0; t < TAPES; t++) {
                if (willDo(t, length, node)) return t;
            }
            return -1;
        }

        /** Whether writing can begin; if not, the act that brings the drive nearer is begun. */
        private boolean isAtEndOf(int t) {
            if (mounted != t) {
                if (mounted >= 0) beginUnmounting();
                else beginMounting(t);
                return false;
            }
            int end = library.tapes[t].length;
            if (head == end) return true;
            beginWinding(end);
            return false;
        }

        private void beginWriting(int what, int node, int id) {
            task = what;
            taskNode = node;
            taskId = id;
            int length = library.tapes[mounted].length;
            int more = bufferLength + (length == 0 ? LABEL_BYTES : 0);
            begin(WRITING, (more + 63) / 64, length + more);
        }

        private int putHead(int sort, int id, int version, int depth) {
            buffer[0] = 83;
            buffer[1] = (byte) sort;
            Tape.putNumber(buffer, 2, 4, id);
            Tape.putNumber(buffer, 6, 4, version);
            Tape.putNumber(buffer, 10, 4, library.nextStamp);
            library.nextStamp++;
            buffer[14] = (byte) depth;
            return 15;
        }

        private int putCheck(int from, int at) {
            return Tape.putNumber(buffer, at, 4, Tape.checkOf(buffer, from, at));
        }

        private void beginDelete(int id) {
            int at = putHead(DELETE_SORT, id, 1, 0);
            at = Tape.putNumber(buffer, at, 2, 0);
            bufferLength = putCheck(0, at);
            beginWriting(OF_DELETE, -1, id);
        }

        private void beginParcel() {
            bufferLength = reader.parcelLength;
            System.arraycopy(reader.parcel, 0, buffer, 0, bufferLength);
            beginWriting(OF_PARCEL, -1, Tape.numberAt(buffer, 2, 4));
        }

        private void beginFile(int n) {
            Tree tree = changes.tree;
            Node f = tree.nodes[n];
            int depth = tree.depthOf(n);
            int names = putHead(FILE_SORT, f.id, f.version, depth);
            int at = names + 8 * depth;
            int up = n;
            for (int i = depth - 1; i >= 0; i--) {
                Tape.putNumber(buffer, names + 8 * i, 8, tree.nodes[up].title);
                up = tree.nodes[up].over;
            }
            at = Tape.putNumber(buffer, at, 2, f.size);
            at = putCheck(0, at);
            for (int b = 0; b < f.blocks(); b++) {
                int length = Math.min(BLOCK_BYTES, f.size - b * BLOCK_BYTES);
                changes.stores.takeOut(f.home[b], buffer, at + b * BLOCK_BYTES, length);
            }
            bufferLength = putCheck(at, at + f.size);
            taskVersion = f.version;
            beginWriting(OF_FILE, n, f.id);
        }

        void finish() {
            int place = library.append(mounted, buffer, bufferLength);
            if (task == OF_DELETE) changes.noteDeleteWritten(taskId);
            else if (task == OF_PARCEL) endParcel(place);
            else endFile(place);
        }

        private void endParcel(int place) {
            reader.parcelLength = 0;
            int owner = changes.tree.ownerOf(reader.reclaimed, reader.parcelPlace);
            if (owner < 0) return;
            int i = changes.tree.nodes[owner].copyAt(reader.reclaimed, reader.parcelPlace);
            changes.putCopy(owner, i, mounted, place);
        }

        private void endFile(int place) {
            Node f = changes.tree.nodes[taskNode];
            boolean same = f.kind == FILE && f.id == taskId && f.version == taskVersion;
            if (same && f.copyCount < MOST_COPIES) changes.noteCopy(taskNode, mounted, place);
        }
    }

    /** What sinks files between the watermarks. */
    private static final class Migrator {
        private final Changes changes;
        private final Writer writer;
        private final Tree tree;
        private final Stores stores;
        final int[] high = new int[2];
        final int[] low = new int[2];
        boolean fastMode;
        boolean slowMode;
        private final int[] ranked = new int[NODES];
        private final int[] ranks = new int[NODES];
        private int rankedCount;

        Migrator(Changes changes, Writer writer) {
            this.changes = changes;
            this.writer = writer;
            tree = changes.tree;
            stores = changes.stores;
            high[FAST] = 40;
            low[FAST] = 30;
            high[SLOW] = 140;
            low[SLOW] = 100;
        }

        void stop() {
            fastMode = false;
            slowMode = false;
        }

        void work() {
            fastMode = modeOf(FAST, fastMode);
            slowMode = modeOf(SLOW, slowMode);
            if (fastMode && stores.free[SLOW] > 0) {
                rankFiles(FAST);
                if (rankedCount > 0) changes.sink(ranked[0]);
            } else if (slowMode) {
                rankFiles(SLOW);
                if (!releaseFirst()) queueFirst();
            }
        }

        private boolean modeOf(int store, boolean was) {
            if (stores.used[store] > high[store]) return true;
            return was && stores.used[store] > low[store];
        }

        /** Puts the files with blocks in a store into a row, the greatest rank first. */
        private void rankFiles(int store) {
            rankedCount = 0;
            for (int n = 1; n < NODES; n++) {
                Node f = tree.nodes[n];
                if (f.kind != FILE || (store == FAST ? f.inFast : f.inSlow) == 0) continue;
                int rank = tree.time - f.touch + 4 * f.blocks();
                int at = rankedCount;
                while (at > 0 && ranks[at - 1] < rank) {
                    ranked[at] = ranked[at - 1];
                    ranks[at] = ranks[at - 1];
                    at--;
                }
                ranked[at] = n;
                ranks[at] = rank;
                rankedCount++;
            }
        }

        private boolean releaseFirst() {
            for (int i = 0; i < rankedCount; i++) {
                if (tree.hasItsCopies(tree.nodes[ranked[i]])) {
                    changes.release(ranked[i]);
                    return true;
                }
            }
            return false;
        }

        private void queueFirst() {
            int needed = stores.used[SLOW] - low[SLOW];
            for (int i = 0; i < rankedCount && needed > 0; i++) {
                if (!writer.isQueued(ranked[i])) {
                    writer.enqueue(ranked[i]);
                    return;
                }
                needed -= tree.nodes[ranked[i]].inSlow;
            }
        }
    }
}
