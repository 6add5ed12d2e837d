import java.util.function.Consumer;

/**
 * A random run in which all blocks have one DIGEST, and blocks are altered by flips that are planned for some
 * ACCESS, so that one call may read two different blocks where there was one: it must answer what the Model does.
 */
final class ReadTwiceRun extends ForgedRun {
    private static final int MOST_FLIPS = 64;

    ReadTwiceRun(long seed, boolean deep) {
        super(seed, deep);
        Forge.giveAllOneDigest(real);
        model.giveAllOneDigest(theDigest());
    }

    private static byte[] theDigest() {
        LyingDisk disk = new LyingDisk();
        Forge.giveAllOneDigest(disk);
        disk.format(64);
        byte[] digest = new byte[32];
        for (int i = 0; i < 32; i++) {
            digest[i] = (byte) disk.register(i);
        }
        return digest;
    }

    @Override
    void play() {
        call("format", blocks());
        call("mount", 2 + below(chance(70) ? 2 : 8));
        if (kind == 3) {
            manyNames();
        }
        int most = deep ? 20 * CALLS : CALLS - 2 * MOST_FLIPS - 20;
        while (same && calls < most) {
            if (chance(25)) {
                call("sync");
            }
            if (chance(40)) {
                forgeBlock();
            }
            step();
            compareCounts();
        }
        if (deep && same) {
            compareDisks();
        }
    }

    /** Plans flips, or flips at once, as many as there is room for: none, if that is not enough. */
    @Override
    void alter(String what, Consumer<byte[]> change) {
        int number = forge.numberAt(wayDown());
        byte[] flips = forge.flipsFor(number, change);
        int needed = 0;
        for (byte flip : flips) {
            needed += flip != 0 ? 1 : 0;
        }
        if (needed == 0 || needed > MOST_FLIPS - real.count(10)) {
            return;
        }
        int when = chance(10) ? 0 : 1 + below(chance(60) ? 16 : 40);
        log.add("planned: " + what + " of block " + number + " behind " + way + " before access " + when);
        for (int i = 0; i < 256; i++) {
            if (flips[i] != 0) {
                call("flip", number, i, (int) flips[i], when);
            }
        }
    }
}
