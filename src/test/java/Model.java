import java.security.GeneralSecurityException;
import java.security.MessageDigest;
import java.util.ArrayList;
import java.util.Arrays;
import java.util.Iterator;
import java.util.LinkedHashMap;
import java.util.List;
import java.util.NoSuchElementException;
import java.util.TreeMap;
import java.util.TreeSet;

/**
 * The document a second time, written apart from LyingDisk and with the Java library: bytes
 * instead of words, sets instead of bit maps, the library's AES and SHA-256. RandomRunsTest
 * compares the two call by call.
 */
final class Model {
    /** Ends a call: TAMPERED or POWER. */
    static final class Stop extends RuntimeException {
        private static final long serialVersionUID = 1;
        final int answer;

        Stop(int answer) {
            super(null, null, false, false);
            this.answer = answer;
        }
    }

    /** A POINTER, by the bytes that it stands in. */
    record Spot(byte[] bytes, int at) {
        int number() {
            return number4(bytes, at);
        }

        byte[] digest() {
            return Arrays.copyOfRange(bytes, at + 4, at + 36);
        }

        boolean isNone() {
            return number() == -1 && Arrays.equals(digest(), new byte[32]);
        }

        void set(int number, byte[] digest) {
            putNumber4(bytes, at, number);
            System.arraycopy(digest, 0, bytes, at + 4, 32);
        }

        void setNone() {
            set(-1, new byte[32]);
        }
    }

    /** What a block holds; POINTERS are in NODES and among INODES. */
    enum Holds { DATA, NODE, INODES }

    record Flip(int block, int at, int with, long on) {
    }

    /** Where a PATH leads: the chain of INODES from the top on, and the ENTRY's place in the last but one. */
    static final class Way {
        final List<Integer> inodes = new ArrayList<>();
        byte[] inode;
        byte[] parentInode;
        int entry = -1;
        boolean found;
        boolean parentFound;

        int last() {
            return inodes.get(inodes.size() - 1);
        }

        int parent() {
            return found ? inodes.get(inodes.size() - 2) : last();
        }
    }

    private byte[] tape = new byte[0];
    private byte[] nextKey = new byte[32];
    private byte[] key = new byte[32];
    private byte[][] disk = new byte[0][];
    private byte[][] kept;
    private byte[] result = new byte[0];
    private int rootBlock = -1;
    private byte[] rootDigest = new byte[32];
    private boolean sealed;
    private long tries;
    private int accesses;
    private long powerOn = -1;
    private List<Flip> flips = new ArrayList<>();

    private boolean mounted;
    /** The DIGEST of all blocks, if two different ones shall have one; else null. */
    private byte[] oneDigest;

    private int capacity;
    private long commits;
    private byte[] table = new byte[36];
    private TreeSet<Integer> working = new TreeSet<>();
    private TreeSet<Integer> committed = new TreeSet<>();
    private TreeMap<Integer, byte[]> fresh = new TreeMap<>();
    private LinkedHashMap<Integer, byte[]> cache = new LinkedHashMap<>(16, 0.75f, true);

    static int number4(byte[] b, int at) {
        return (b[at] & 255) << 24 | (b[at + 1] & 255) << 16 | (b[at + 2] & 255) << 8 | b[at + 3] & 255;
    }

    static void putNumber4(byte[] b, int at, int n) {
        for (int i = 0; i < 4; i++) {
            b[at + i] = (byte) (n >> 24 - 8 * i);
        }
    }

    // ---- the calls

    int feed(int a, int b, int c, int d, int e) {
        if (tape.length + 20 > 65536) {
            throw new IllegalStateException();
        }
        int old = tape.length;
        tape = Arrays.copyOf(tape, old + 20);
        int[] all = {a, b, c, d, e};
        for (int i = 0; i < 5; i++) {
            putNumber4(tape, old + 4 * i, all[i]);
        }
        return tape.length;
    }

    int end(int n) {
        need(n >= 0 && n <= tape.length);
        tape = Arrays.copyOf(tape, n);
        return n;
    }

    void key() {
        need(tape.length == 32);
        nextKey = takeTape();
    }

    int format(int n) {
        need(n % 8 == 0 && n >= 64 && n <= 1024);
        disk = new byte[n][256];
        key = nextKey.clone();
        flips.clear();
        powerOn = -1;
        accesses = 0;
        sealed = false;
        mounted = false;
        fresh.clear();
        cache.clear();
        working.clear();
        committed.clear();
        rootBlock = -1;
        commits = 0;
        new Spot(table, 0).setNone();
        byte[] inode = changeInode(0, new byte[64]).bytes();
        inode[0] = 2;
        new Spot(inode, 8).setNone();
        commit();
        mounted = false;
        return accesses;
    }

    int mount(int c) {
        need(c >= 2 && c <= 64);
        mounted = false;
        if (disk.length == 0) {
            return -3;
        }
        if (sealed) {
            return -1;
        }
        return stoppable(() -> mountNow(c));
    }

    private int mountNow(int c) {
        attempt();
        byte[] raw = disk[rootBlock];
        if (!Arrays.equals(digest(raw), rootDigest)) {
            throw tampered();
        }
        byte[] root = Crypto.xts(false, key, rootBlock, raw);
        commits = (long) number4(root, 0) << 32 | number4(root, 4) & 0xffffffffL;
        table = Arrays.copyOfRange(root, 8, 44);
        working.clear();
        for (int i = 0; i < disk.length; i++) {
            if ((root[64 + i / 8] >> 7 - i % 8 & 1) != 0) {
                working.add(i);
            }
        }
        committed = new TreeSet<>(working);
        fresh.clear();
        cache.clear();
        capacity = c;
        if (!committed.contains(new Spot(table, 0).number())) {
            throw tampered();
        }
        mounted = true;
        return lowCommits();
    }

    void off() {
        mounted = false;
    }

    int make(int sort) {
        need(sort == 1 || sort == 2);
        byte[] bytes = takeTape();
        return guarded(() -> {
            List<byte[]> names = names(bytes);
            Way way = follow(names);
            if (way.found) {
                return -6;
            }
            if (!way.parentFound) {
                return -5;
            }
            if (size(way.inode) == 2048) {
                return -10;
            }
            byte[] unused = new byte[64];
            int number = freeInode(unused);
            if (number < 0) {
                return -10;
            }
            if (free() < 24) {
                return -9;
            }
            Spot inode = changeInode(number, unused);
            Arrays.fill(inode.bytes(), inode.at(), inode.at() + 64, (byte) 0);
            inode.bytes()[inode.at()] = (byte) sort;
            new Spot(inode.bytes(), inode.at() + 8).setNone();
            putEntry(changeInode(way.parent(), way.parentInode), number, names.get(names.size() - 1));
            return number;
        });
    }

    int remove() {
        byte[] bytes = takeTape();
        return guarded(() -> {
            Way way = follow(names(bytes));
            if (!way.found) {
                return -5;
            }
            if (way.last() == 0 || way.inode[0] == 2 && size(way.inode) > 0) {
                return -8;
            }
            if (free() < 24) {
                return -9;
            }
            Spot inode = changeInode(way.last(), way.inode);
            resize(inode, 0);
            Arrays.fill(inode.bytes(), inode.at(), inode.at() + 64, (byte) 0);
            dropEntry(changeInode(way.parent(), way.parentInode), way.entry);
            return way.last();
        });
    }

    int move(int n) {
        need(n >= 0 && n <= tape.length);
        byte[] bytes = takeTape();
        return guarded(() -> {
            List<byte[]> from = names(Arrays.copyOf(bytes, n));
            List<byte[]> to = names(Arrays.copyOfRange(bytes, n, bytes.length));
            Way old = follow(from);
            if (!old.found) {
                return -5;
            }
            Way goal = follow(to);
            if (!goal.found && !goal.parentFound) {
                return -5;
            }
            List<Integer> passed = goal.found ? goal.inodes.subList(0, goal.inodes.size() - 1) : goal.inodes;
            boolean inside = passed.contains(old.last());
            if (old.last() == 0 || inside) {
                return -7;
            }
            if (goal.found) {
                return -6;
            }
            if (goal.parent() != old.parent() && size(goal.inode) == 2048) {
                return -10;
            }
            if (free() < 24) {
                return -9;
            }
            Spot directory = changeInode(old.parent(), old.parentInode);
            dropEntry(directory, old.entry);
            if (goal.parent() != old.parent()) {
                directory = changeInode(goal.parent(), goal.parentInode);
            }
            putEntry(directory, old.last(), to.get(to.size() - 1));
            return old.last();
        });
    }

    int write(int n, int at) {
        need(n >= 0 && n <= tape.length && at >= 0);
        byte[] bytes = takeTape();
        return guarded(() -> {
            Way way = follow(names(Arrays.copyOf(bytes, n)));
            if (!way.found) {
                return -5;
            }
            if (way.inode[0] == 2) {
                return -7;
            }
            int count = bytes.length - n;
            if (count == 0) {
                return size(way.inode);
            }
            long stop = (long) at + count;
            if (stop > 65536) {
                return -10;
            }
            int first = at / 256;
            int last = (int) (stop - 1) / 256;
            if (free() < 2 * (last - first + 1) + 24) {
                return -9;
            }
            Spot inode = changeInode(way.last(), way.inode);
            if (stop > sizeAt(inode)) {
                resize(inode, (int) stop);
            }
            byte[] block = null;
            for (int i = at; i < stop; i++) {
                if (block == null || i % 256 == 0) {
                    block = changeData(tree(inode), heightAt(inode), i / 256);
                }
                block[i % 256] = bytes[n + i - at];
            }
            return sizeAt(inode);
        });
    }

    int size(int n) {
        need(n >= 0);
        byte[] bytes = takeTape();
        return guarded(() -> {
            Way way = follow(names(bytes));
            if (!way.found) {
                return -5;
            }
            if (way.inode[0] == 2) {
                return -7;
            }
            int old = size(way.inode);
            if (n == old) {
                return n;
            }
            if (n > 65536) {
                return -10;
            }
            int lesser = Math.min(n, old);
            int greater = Math.max(n, old);
            if (free() < 2 * ((greater - 1) / 256 - lesser / 256 + 1) + 24) {
                return -9;
            }
            resize(changeInode(way.last(), way.inode), n);
            return n;
        });
    }

    int read(int at, int n) {
        need(n >= 0 && n <= 4096 && at >= 0);
        byte[] bytes = takeTape();
        return guarded(() -> {
            Way way = follow(names(bytes));
            if (!way.found) {
                return -5;
            }
            if (way.inode[0] == 2) {
                return -7;
            }
            int stop = (int) Math.min((long) at + n, size(way.inode));
            result = bytesOf(way.inode, at, Math.max(at, stop));
            return result.length;
        });
    }

    int list() {
        byte[] bytes = takeTape();
        return guarded(() -> {
            Way way = follow(names(bytes));
            if (!way.found) {
                return -5;
            }
            if (way.inode[0] == 1) {
                return -7;
            }
            result = bytesOf(way.inode, 0, size(way.inode));
            return result.length / 32;
        });
    }

    int told(int what) {
        need(what >= 0 && what <= 3);
        byte[] bytes = takeTape();
        return guarded(() -> {
            Way way = follow(names(bytes));
            if (!way.found) {
                return -5;
            }
            int[] all = {way.inode[0], size(way.inode), way.last(), way.inode[1]};
            return all[what];
        });
    }

    int sync() {
        return guarded(() -> {
            if (!fresh.isEmpty()) {
                commit();
            }
            return lowCommits();
        });
    }

    int result(int i) {
        if (i < 0 || i >= result.length) {
            throw new IndexOutOfBoundsException();
        }
        return result[i] & 255;
    }

    int disk(int block, int at) {
        needBlock(block);
        needIndex(at, 256);
        return disk[block][at] & 255;
    }

    int flip(int block, int at, int with, int when) {
        needBlock(block);
        needIndex(at, 256);
        need(when >= 0);
        if (flips.size() == 64) {
            throw new IllegalStateException();
        }
        if (when == 0) {
            disk[block][at] ^= (byte) with;
            return disk[block][at] & 255;
        }
        flips.add(new Flip(block, at, with, tries + when));
        return flips.size();
    }

    void copy(int block, int from) {
        needBlock(block);
        needBlock(from);
        disk[block] = disk[from].clone();
    }

    void image(boolean back) {
        if (disk.length == 0 || back && kept == null) {
            throw new IllegalStateException();
        }
        if (back) {
            for (int i = 0; i < disk.length && i < kept.length; i++) {
                disk[i] = kept[i].clone();
            }
        } else {
            kept = new byte[disk.length][];
            for (int i = 0; i < disk.length; i++) {
                kept[i] = disk[i].clone();
            }
        }
    }

    void power(int k) {
        need(k >= 0);
        powerOn = k == 0 ? -1 : tries + k;
    }

    int count(int what) {
        int[] all = {
            tape.length, disk.length, accesses, mounted ? 1 : 0, sealed ? 1 : 0, mounted ? free() : 0,
            mounted ? fresh.size() : 0, mounted ? cache.size() : 0, mounted ? lowCommits() : 0,
            disk.length == 0 ? -1 : rootBlock, flips.size(), result.length,
        };
        return what >= 0 && what < all.length ? all[what] : -1;
    }

    int register(int i) {
        needIndex(i, 32);
        if (disk.length == 0) {
            throw new IllegalStateException();
        }
        return rootDigest[i] & 255;
    }

    /** What was forged: all blocks, and the DIGEST of ROOT in the REGISTER. */
    void lay(java.util.function.IntFunction<byte[]> blocks, byte[] digest) {
        Arrays.setAll(disk, blocks);
        rootDigest = digest;
    }

    void giveAllOneDigest(byte[] digest) {
        oneDigest = digest;
    }

    private byte[] digest(byte[] raw) {
        return oneDigest == null ? Crypto.sha(raw) : oneDigest;
    }

    // ---- arguments and answers

    private interface Act {
        int run();
    }

    /** What a call answers that needs something MOUNTED. */
    private int guarded(Act act) {
        if (sealed) {
            return -1;
        }
        return mounted ? stoppable(act) : -3;
    }

    private int stoppable(Act act) {
        try {
            return act.run();
        } catch (Stop stop) {
            if (stop.answer > -3) {
                mounted = false;
            }
            return stop.answer;
        }
    }

    private byte[] takeTape() {
        byte[] bytes = tape;
        tape = new byte[0];
        return bytes;
    }

    private static void need(boolean fits) {
        if (!fits) {
            throw new IllegalArgumentException();
        }
    }

    private void needBlock(int block) {
        if (block < 0 || block >= disk.length) {
            throw new NoSuchElementException();
        }
    }

    private static void needIndex(int i, int length) {
        if (i < 0 || i >= length) {
            throw new IndexOutOfBoundsException();
        }
    }

    private int lowCommits() {
        return (int) (commits & 0x7fffffff);
    }

    private Stop tampered() {
        sealed = true;
        return new Stop(-1);
    }

    /** Before an ACCESS. */
    private void attempt() {
        tries++;
        for (Iterator<Flip> it = flips.iterator(); it.hasNext();) {
            Flip f = it.next();
            if (f.on() == tries) {
                disk[f.block()][f.at()] ^= (byte) f.with();
                it.remove();
            }
        }
        if (powerOn == tries) {
            powerOn = -1;
            throw new Stop(-2);
        }
        accesses++;
    }

    // ---- blocks

    private int free() {
        TreeSet<Integer> used = new TreeSet<>(working);
        used.addAll(committed);
        return disk.length - used.size();
    }

    private int take(byte[] bytes) {
        int number = 0;
        while (working.contains(number) || committed.contains(number)) {
            number++;
        }
        if (number >= disk.length) {
            if (oneDigest != null) {
                throw tampered();
            }
            throw new AssertionError("no block is left, though it was not full");
        }
        working.add(number);
        fresh.put(number, bytes);
        cache.remove(number);
        return number;
    }

    private void release(int number) {
        working.remove(number);
        fresh.remove(number);
    }

    private byte[] get(Spot p, Holds what) {
        int number = p.number();
        if (fresh.containsKey(number)) {
            return fresh.get(number);
        }
        byte[] plain = cache.get(number);
        if (plain == null) {
            attempt();
            if (!Arrays.equals(digest(disk[number]), p.digest())) {
                throw tampered();
            }
            plain = Crypto.xts(false, key, number, disk[number]);
            if (cache.size() == capacity) {
                cache.remove(cache.keySet().iterator().next());
            }
            cache.put(number, plain);
        }
        for (Spot inside : spots(plain, what)) {
            if (!inside.isNone() && !committed.contains(inside.number())) {
                throw tampered();
            }
        }
        return plain;
    }

    private static List<Spot> spots(byte[] block, Holds what) {
        List<Spot> all = new ArrayList<>();
        for (int i = 0; i < 7 && what == Holds.NODE; i++) {
            all.add(new Spot(block, 36 * i));
        }
        for (int i = 0; i < 4 && what == Holds.INODES; i++) {
            if (block[64 * i] != 0) {
                all.add(new Spot(block, 64 * i + 8));
            }
        }
        return all;
    }

    private static byte[] emptyNode() {
        byte[] node = new byte[256];
        for (int i = 0; i < 7; i++) {
            new Spot(node, 36 * i).setNone();
        }
        return node;
    }

    private byte[] change(Spot p, Holds what) {
        int old = p.number();
        if (fresh.containsKey(old)) {
            return fresh.get(old);
        }
        byte[] empty = what == Holds.NODE ? emptyNode() : new byte[256];
        byte[] bytes = p.isNone() ? empty : get(p, what).clone();
        int number = take(bytes);
        if (old != -1) {
            release(old);
        }
        p.set(number, new byte[32]);
        return bytes;
    }

    // ---- TREES

    private static int digit(int i, int level) {
        return i / (int) Math.round(Math.pow(7, level - 1)) % 7;
    }

    private static Spot child(byte[] node, int k) {
        return new Spot(node, 36 * k);
    }

    /** The POINTER to DATA block i, or null where a NODE above is NONE. */
    private Spot find(Spot tree, int height, int i) {
        if (height == 0) {
            return tree;
        }
        return tree.isNone() ? null : find(child(get(tree, Holds.NODE), digit(i, height)), height - 1, i);
    }

    private byte[] data(Spot tree, int height, int i) {
        return data(tree, height, i, Holds.DATA);
    }

    private byte[] data(Spot tree, int height, int i, Holds what) {
        Spot p = find(tree, height, i);
        return p == null || p.isNone() ? null : get(p, what);
    }

    private byte[] changeData(Spot tree, int height, int i) {
        return changeData(tree, height, i, Holds.DATA);
    }

    private byte[] changeData(Spot tree, int height, int i, Holds what) {
        if (height == 0) {
            return change(tree, what);
        }
        return changeData(child(change(tree, Holds.NODE), digit(i, height)), height - 1, i, what);
    }

    private void cut(Spot tree, int height, int i) {
        if (height > 0) {
            byte[] node = change(tree, Holds.NODE);
            cut(child(node, digit(i, height)), height - 1, i);
            if (!spots(node, Holds.NODE).stream().allMatch(Spot::isNone)) {
                return;
            }
        }
        release(tree.number());
        tree.setNone();
    }

    private static int least(int size) {
        return size <= 256 ? 0 : size <= 7 * 256 ? 1 : size <= 49 * 256 ? 2 : 3;
    }

    // ---- INODES; a Spot is used for an INODE's place, too

    private static int size(byte[] inode) {
        return number4(inode, 4);
    }

    private static int sizeAt(Spot inode) {
        return number4(inode.bytes(), inode.at() + 4);
    }

    private static int heightAt(Spot inode) {
        return inode.bytes()[inode.at() + 1];
    }

    private static Spot tree(Spot inode) {
        return new Spot(inode.bytes(), inode.at() + 8);
    }

    /** What changes must be what was read before: its block may be read for the second time. */
    private Spot changeInode(int number, byte[] read) {
        Spot inode = new Spot(changeData(new Spot(table, 0), 2, number / 4, Holds.INODES), number % 4 * 64);
        if (!Arrays.equals(inode.bytes(), inode.at(), inode.at() + 64, read, 0, 64)) {
            throw tampered();
        }
        return inode;
    }

    private byte[] readInode(int number) {
        if (number >= 128) {
            throw tampered();
        }
        byte[] block = data(new Spot(table, 0), 2, number / 4, Holds.INODES);
        byte[] inode = new byte[64];
        if (block != null) {
            System.arraycopy(block, number % 4 * 64, inode, 0, 64);
        }
        long size = size(inode) & 0xffffffffL;
        boolean directory = inode[0] == 2 && size % 32 == 0 && size <= 2048;
        if (inode[0] != 1 && !directory || size > 65536 || inode[1] != least((int) size)) {
            throw tampered();
        }
        return inode;
    }

    /** Its bytes, as they were read, come to the array. */
    private int freeInode(byte[] unused) {
        for (int b = 0; b < 32; b++) {
            byte[] block = data(new Spot(table, 0), 2, b, Holds.INODES);
            for (int k = 0; k < 4; k++) {
                if (block == null || block[64 * k] == 0) {
                    System.arraycopy(block == null ? new byte[256] : block, 64 * k, unused, 0, 64);
                    return 4 * b + k;
                }
            }
        }
        return -1;
    }

    private void resize(Spot inode, int size) {
        Spot tree = tree(inode);
        int height = heightAt(inode);
        int old = sizeAt(inode);
        while (height < least(size)) {
            if (!tree.isNone()) {
                byte[] node = emptyNode();
                new Spot(node, 0).set(tree.number(), tree.digest());
                tree.set(take(node), new byte[32]);
            }
            height++;
        }
        if (size < old) {
            if (size % 256 != 0) {
                Spot p = find(tree, height, size / 256);
                if (p != null && !p.isNone()) {
                    Arrays.fill(changeData(tree, height, size / 256), size % 256, 256, (byte) 0);
                }
            }
            for (int i = (old + 255) / 256 - 1; i * 256 >= size; i--) {
                Spot p = find(tree, height, i);
                if (p != null && !p.isNone()) {
                    cut(tree, height, i);
                }
            }
            while (height > least(size)) {
                if (!tree.isNone()) {
                    Spot first = child(get(tree, Holds.NODE), 0);
                    int top = tree.number();
                    tree.set(first.number(), first.digest());
                    release(top);
                }
                height--;
            }
        }
        inode.bytes()[inode.at() + 1] = (byte) height;
        putNumber4(inode.bytes(), inode.at() + 4, size);
    }

    private byte[] bytesOf(byte[] inode, int from, int to) {
        byte[] bytes = new byte[to - from];
        int i = from;
        while (i < to) {
            byte[] block = data(new Spot(inode, 8), inode[1], i / 256);
            int stop = Math.min(to, (i / 256 + 1) * 256);
            if (block != null) {
                System.arraycopy(block, i % 256, bytes, i - from, stop - i);
            }
            i = stop;
        }
        return bytes;
    }

    // ---- PATHS and ENTRIES

    private static List<byte[]> names(byte[] path) {
        List<byte[]> names = new ArrayList<>();
        if (path.length == 0) {
            return names;
        }
        String text = new String(path, java.nio.charset.StandardCharsets.ISO_8859_1);
        for (String name : text.split("/", -1)) {
            if (name.isEmpty() || name.length() > 29 || name.indexOf('\0') >= 0) {
                throw new Stop(-4);
            }
            names.add(name.getBytes(java.nio.charset.StandardCharsets.ISO_8859_1));
        }
        if (names.size() > 16) {
            throw new Stop(-4);
        }
        return names;
    }

    private Way follow(List<byte[]> names) {
        Way way = new Way();
        way.inodes.add(0);
        way.inode = readInode(0);
        for (int k = 0; k < names.size(); k++) {
            if (way.inode[0] != 2) {
                return way;
            }
            way.parentInode = way.inode;
            int number = -1;
            byte[] wanted = entryOf(0, names.get(k));
            int end = 3 + names.get(k).length;
            byte[] block = null;
            for (int e = 0; e < size(way.inode) / 32 && number < 0; e++) {
                if (e % 8 == 0) {
                    block = data(new Spot(way.inode, 8), way.inode[1], e / 8);
                }
                int at = e % 8 * 32;
                if (block != null && Arrays.equals(block, at + 2, at + end, wanted, 2, end)) {
                    number = (block[at] & 255) << 8 | block[at + 1] & 255;
                    way.entry = e;
                }
            }
            if (number < 0) {
                way.parentFound = k == names.size() - 1;
                return way;
            }
            way.inodes.add(number);
            way.inode = readInode(number);
        }
        way.found = true;
        return way;
    }

    private static byte[] entryOf(int number, byte[] name) {
        byte[] entry = new byte[32];
        entry[0] = (byte) (number >> 8);
        entry[1] = (byte) number;
        entry[2] = (byte) name.length;
        System.arraycopy(name, 0, entry, 3, name.length);
        return entry;
    }

    private void putEntry(Spot inode, int number, byte[] name) {
        int at = sizeAt(inode);
        resize(inode, at + 32);
        byte[] block = changeData(tree(inode), heightAt(inode), at / 256);
        System.arraycopy(entryOf(number, name), 0, block, at % 256, 32);
    }

    private void dropEntry(Spot inode, int entry) {
        int last = sizeAt(inode) - 32;
        if (last != 32 * entry) {
            byte[] block = data(tree(inode), heightAt(inode), last / 256);
            byte[] moved = block == null ? new byte[32] : Arrays.copyOfRange(block, last % 256, last % 256 + 32);
            block = changeData(tree(inode), heightAt(inode), entry / 8);
            System.arraycopy(moved, 0, block, entry % 8 * 32, 32);
        }
        resize(inode, last);
    }

    // ---- COMMIT

    private void commit() {
        for (int number = 0; number < 128; number++) {
            Spot p = new Spot(table, 0);
            for (int level = 2; level > 0 && p != null; level--) {
                byte[] node = fresh.get(p.number());
                p = node == null ? null : child(node, digit(number / 4, level));
            }
            byte[] block = p == null ? null : fresh.get(p.number());
            if (block != null && block[number % 4 * 64] != 0) {
                writeTree(new Spot(block, number % 4 * 64 + 8), block[number % 4 * 64 + 1]);
            }
        }
        writeTree(new Spot(table, 0), 2);
        byte[] root = new byte[256];
        int block = take(root);
        if (rootBlock >= 0) {
            release(rootBlock);
        }
        commits++;
        putNumber4(root, 0, (int) (commits >> 32));
        putNumber4(root, 4, (int) commits);
        System.arraycopy(table, 0, root, 8, 36);
        for (int used : working) {
            root[64 + used / 8] |= (byte) (128 >> used % 8);
        }
        attempt();
        disk[block] = Crypto.xts(true, key, block, root);
        byte[] digest = digest(disk[block]);
        attempt();
        rootBlock = block;
        rootDigest = digest;
        fresh.clear();
        committed = new TreeSet<>(working);
    }

    private void writeTree(Spot p, int height) {
        byte[] block = fresh.get(p.number());
        if (block == null) {
            return;
        }
        for (int k = 0; k < 7 && height > 0; k++) {
            writeTree(child(block, k), height - 1);
        }
        attempt();
        disk[p.number()] = Crypto.xts(true, key, p.number(), block);
        p.set(p.number(), digest(disk[p.number()]));
    }

    /** The library's SHA-256 and AES, the latter in XTS mode. */
    static final class Crypto {
        private Crypto() {
        }

        static byte[] sha(byte[] bytes) {
            try {
                return MessageDigest.getInstance("SHA-256").digest(bytes);
            } catch (GeneralSecurityException e) {
                throw new AssertionError(e);
            }
        }

        static byte[] xts(boolean encipher, byte[] key, int number, byte[] from) {
            byte[] tweak = new byte[16];
            for (int i = 0; i < 4; i++) {
                tweak[i] = (byte) (number >> 8 * i);
            }
            tweak = aes(true, Arrays.copyOfRange(key, 16, 32), tweak);
            byte[] tweaks = new byte[256];
            for (int unit = 0; unit < 16; unit++) {
                System.arraycopy(tweak, 0, tweaks, 16 * unit, 16);
                int carry = 0;
                for (int i = 0; i < 16; i++) {
                    int twice = (tweak[i] & 255) << 1 | carry;
                    tweak[i] = (byte) twice;
                    carry = twice >> 8;
                }
                if (carry != 0) {
                    tweak[0] ^= (byte) 0x87;
                }
            }
            return xor(aes(encipher, Arrays.copyOf(key, 16), xor(from, tweaks)), tweaks);
        }

        private static byte[] aes(boolean encipher, byte[] key, byte[] from) {
            try {
                javax.crypto.Cipher c = javax.crypto.Cipher.getInstance("AES/ECB/NoPadding");
                int mode = encipher ? javax.crypto.Cipher.ENCRYPT_MODE : javax.crypto.Cipher.DECRYPT_MODE;
                c.init(mode, new javax.crypto.spec.SecretKeySpec(key, "AES"));
                return c.doFinal(from);
            } catch (GeneralSecurityException e) {
                throw new AssertionError(e);
            }
        }

        private static byte[] xor(byte[] a, byte[] b) {
            byte[] c = new byte[a.length];
            for (int i = 0; i < a.length; i++) {
                c[i] = (byte) (a[i] ^ b[i]);
            }
            return c;
        }
    }
}
