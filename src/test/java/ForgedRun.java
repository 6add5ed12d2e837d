import java.util.ArrayList;
import java.util.Arrays;
import java.util.List;
import java.util.function.Consumer;

/**
 * A random run in which the DISK is altered behind right DIGESTS, as if other blocks had them, too: what is
 * answered then must be the same on a LyingDisk and on the Model.
 */
class ForgedRun extends RandomRun {
    private static final int TABLE_IN_ROOT = 8;
    private static final int MAP_IN_ROOT = 64;

    final Forge forge = Forge.of(real);
    /** POINTERS that were seen, each with its DIGEST, to be put where they do not belong. */
    private final List<byte[]> seen = new ArrayList<>();
    final List<Integer> way = new ArrayList<>();
    private byte[] block = new byte[256];

    ForgedRun(long seed, boolean deep) {
        super(seed, deep);
    }

    @Override
    void play() {
        call("format", blocks());
        call("mount", 2 + below(chance(50) ? 4 : 63));
        if (kind == 3) {
            manyNames();
        }
        int most = deep ? 20 * CALLS : CALLS - 20;
        while (same && calls < most) {
            for (int i = 5 + below(40); same && i > 0 && calls < most; i--) {
                step();
                compareCounts();
            }
            call("sync");
            forgeBlocks();
            call("mount", 2 + below(chance(50) ? 4 : 63));
        }
        if (deep && same) {
            compareDisks();
        }
    }

    void compareCounts() {
        for (int what = 0; deep && what < 12; what++) {
            call("count", what);
        }
    }

    private void forgeBlocks() {
        seen.clear();
        for (int i = 1 + below(3); i > 0; i--) {
            forgeBlock();
        }
        model.lay(forge::raw, forge.digestInRegister());
    }

    /** From ROOT on down to a block somewhere in the tree, which is altered. */
    void forgeBlock() {
        way.clear();
        block = forge.root();
        if (chance(15) || !goDown(TABLE_IN_ROOT)) {
            alterRoot();
            return;
        }
        for (int level = 2; level > 0; level--) {
            if (chance(10) || !goDown(36 * (chance(70) ? 0 : below(7)))) {
                alterNode();
                return;
            }
        }
        int inode = 64 * below(4);
        int height = block[inode + 1];
        boolean directory = block[inode] == 2;
        if (chance(40) || block[inode] == 0 || !goDown(inode + 8)) {
            alterInodes(inode);
            return;
        }
        for (int level = height; level > 0; level--) {
            if (chance(40) || !goDown(36 * (chance(70) ? 0 : below(7)))) {
                alterNode();
                return;
            }
        }
        if (directory) {
            alterEntries();
        } else {
            alterAnything();
        }
    }

    private boolean goDown(int at) {
        int number = Model.number4(block, at);
        if (number < 0 || number >= model.count(1)) {
            return false;
        }
        seen.add(Arrays.copyOfRange(block, at, at + 36));
        way.add(at);
        block = forge.named(block, at);
        return true;
    }

    void alter(String what, Consumer<byte[]> change) {
        log.add("forged: " + what + " behind " + way);
        forge.alter(change, wayDown());
    }

    int[] wayDown() {
        return way.stream().mapToInt(i -> i).toArray();
    }

    private void alterAnything() {
        int at = below(256);
        int with = 1 + below(255);
        alter("byte " + at, b -> b[at] ^= (byte) with);
    }

    private void alterBytes(int from, int to) {
        int at = from + below(to - from);
        int with = 1 + below(255);
        alter("byte " + at, b -> b[at] ^= (byte) with);
    }

    private void alterRoot() {
        int blocks = model.count(1);
        int dice = below(100);
        if (dice < 40 && blocks < 1024) {
            alterBytes(MAP_IN_ROOT + blocks / 8, 256);
        } else if (dice < 50) {
            byte[] bits = randomBytes(256);
            alter("all behind the map", b -> System.arraycopy(bits, MAP_IN_ROOT + blocks / 8, b,
                MAP_IN_ROOT + blocks / 8, 192 - blocks / 8));
        } else if (dice < 65) {
            int number = below(chance(70) ? 40 : blocks);
            alter("bit " + number + " of the map", b -> b[MAP_IN_ROOT + number / 8] ^= (byte) (128 >> number % 8));
        } else if (dice < 75) {
            int root = model.count(9);
            alter("ROOT's own bit", b -> b[MAP_IN_ROOT + root / 8] &= (byte) ~(128 >> root % 8));
        } else if (dice < 85) {
            alterBytes(44, 64);
        } else if (dice < 95) {
            alterBytes(0, 8);
        } else {
            alterBytes(TABLE_IN_ROOT, 44);
        }
    }

    private void alterNode() {
        int at = 36 * below(7);
        int dice = below(100);
        if (dice < 15) {
            alterBytes(252, 256);
        } else if (dice < 30) {
            alterBytes(at, at + 36);
        } else {
            alterPointer(at);
        }
    }

    private void alterPointer(int at) {
        byte[] pointer = seen.isEmpty() ? new byte[36] : seen.get(below(seen.size())).clone();
        int dice = below(100);
        if (dice < 30) {
            Arrays.fill(pointer, (byte) 0);
            Forge.put4(pointer, 0, -1);
        } else if (dice < 40) {
            Arrays.fill(pointer, (byte) 0);
            Forge.put4(pointer, 0, -1);
            pointer[4 + below(32)] = (byte) (1 + below(255));
        } else if (dice < 60) {
            System.arraycopy(block, 36 * below(6), pointer, 0, 36);
        } else if (dice < 65) {
            Forge.put4(pointer, 0, below(model.count(1) + 8));
        }
        alter("the pointer at " + at, b -> System.arraycopy(pointer, 0, b, at, 36));
    }

    private void alterInodes(int inode) {
        int dice = below(100);
        if (dice < 25) {
            alterBytes(inode + 2, inode + 4);
        } else if (dice < 40) {
            alterBytes(inode + 44, inode + 64);
        } else if (dice < 65) {
            int size = size();
            int height = size <= 256 ? 0 : size <= 1792 ? 1 : size <= 12544 ? 2 : 3;
            alter("size " + size, b -> {
                Forge.put4(b, inode + 4, size);
                b[inode + 1] = (byte) height;
            });
        } else if (dice < 75) {
            int sort = below(4);
            alter("sort " + sort, b -> b[inode] = (byte) sort);
        } else if (dice < 80) {
            int from = 64 * below(4);
            alter("another inode", b -> System.arraycopy(b, from, b, inode, 64));
        } else if (dice < 95) {
            alterPointer(inode + 8);
        } else {
            alterBytes(inode, inode + 64);
        }
    }

    private int size() {
        int[] edges = {0, 255, 256, 257, 1791, 1792, 1793, 12543, 12544, 12545, 65535, 65536, 65537};
        return chance(60) ? 32 * below(66) : edges[below(edges.length)];
    }

    private void alterEntries() {
        int entry = 32 * below(8);
        int dice = below(100);
        if (dice < 40) {
            int number = chance(80) ? below(10) : 120 + below(20);
            alter("an entry's number " + number, b -> {
                b[entry] = 0;
                b[entry + 1] = (byte) number;
            });
        } else if (dice < 50) {
            int length = below(35);
            alter("a name's length " + length, b -> b[entry + 2] = (byte) length);
        } else if (dice < 70) {
            alterBytes(entry + 3, entry + 32);
        } else if (dice < 90) {
            int from = 32 * below(8);
            alter("another entry", b -> System.arraycopy(b, from, b, entry, 32));
        } else {
            alterAnything();
        }
    }
}
