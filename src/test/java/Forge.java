import java.lang.reflect.Field;
import java.util.Arrays;
import java.util.function.Consumer;

/**
 * A DISK that lies with right DIGESTS. No call of the face can make one, for the REGISTER is trusted: so
 * this writes into the fields in which LyingDisk holds the DISK and the REGISTER. KEY is 0.
 */
final class Forge {
    private final int[][] blocks;
    private final int[] register;

    private Forge(int[][] blocks, int[] register) {
        this.blocks = blocks;
        this.register = register;
    }

    /** null, if the class holds its state in another way. */
    static Forge of(LyingDisk disk) {
        try {
            int[][] blocks = (int[][]) held(held(disk, "drive"), "blocks");
            int[] register = (int[]) held(held(disk, "volume"), "register");
            return new Forge(blocks, register);
        } catch (ReflectiveOperationException | ClassCastException e) {
            return null;
        }
    }

    /**
     * From now on all blocks have one DIGEST, so that two different ones have: SHA-256's state lies in the row
     * in which each 64 bytes of a block are laid, and of all of them only the padding, which is last, counts.
     * false, if the class holds its state in another way.
     */
    static boolean giveAllOneDigest(LyingDisk disk) {
        try {
            Object sha = held(held(disk, "volume"), "sha");
            Field state = sha.getClass().getDeclaredField("state");
            state.setAccessible(true);
            state.set(sha, (int[]) held(sha, "schedule"));
            return true;
        } catch (ReflectiveOperationException | ClassCastException e) {
            return false;
        }
    }

    private static Object held(Object by, String name) throws ReflectiveOperationException {
        Field field = by.getClass().getDeclaredField(name);
        field.setAccessible(true);
        return field.get(by);
    }

    /**
     * Alters a block and puts the DIGESTS right, up to the REGISTER. The way: where in ROOT, and then in each
     * block, the POINTER to the next one lies; empty: ROOT itself.
     */
    void alter(Consumer<byte[]> change, int... way) {
        int[] numbers = new int[way.length + 1];
        byte[][] plain = new byte[way.length + 1][];
        numbers[0] = register[0];
        plain[0] = deciphered(numbers[0]);
        for (int i = 0; i < way.length; i++) {
            numbers[i + 1] = Model.number4(plain[i], way[i]);
            plain[i + 1] = deciphered(numbers[i + 1]);
        }
        change.accept(plain[way.length]);
        for (int i = way.length; i > 0; i--) {
            System.arraycopy(encipher(numbers[i], plain[i]), 0, plain[i - 1], way[i - 1] + 4, 32);
        }
        byte[] digest = encipher(numbers[0], plain[0]);
        System.arraycopy(words(digest), 0, register, 1, 8);
    }

    /** Moves ROOT's TABLE to another block, which the MAP must have as used. */
    void moveTable(int to) {
        alter(root -> {
            byte[] table = deciphered(Model.number4(root, 8));
            put4(root, 8, to);
            System.arraycopy(encipher(to, table), 0, root, 12, 32);
        });
    }

    /** A byte of the REGISTER's DIGEST becomes another one. */
    void alterRegister(int i) {
        register[1 + i / 4] ^= 1 << 8 * (i % 4);
    }

    byte[] root() {
        return deciphered(register[0]);
    }

    /** The number of the block to which the way leads from ROOT. */
    int numberAt(int... way) {
        int number = register[0];
        for (int at : way) {
            number = Model.number4(deciphered(number), at);
        }
        return number;
    }

    /** What a block's bytes on the DISK are to be flipped with, so that what it holds changes so. */
    byte[] flipsFor(int number, Consumer<byte[]> change) {
        byte[] plain = deciphered(number);
        change.accept(plain);
        byte[] flips = Model.Crypto.xts(true, new byte[32], number, plain);
        byte[] raw = raw(number);
        for (int i = 0; i < 256; i++) {
            flips[i] ^= raw[i];
        }
        return flips;
    }

    /** A block as it is on the DISK. */
    byte[] raw(int number) {
        byte[] raw = new byte[256];
        for (int i = 0; i < 64; i++) {
            put4(raw, 4 * i, blocks[number][i]);
        }
        return raw;
    }

    byte[] digestInRegister() {
        byte[] digest = new byte[32];
        for (int i = 0; i < 8; i++) {
            put4(digest, 4 * i, register[1 + i]);
        }
        return digest;
    }

    /** What the block holds that the POINTER there names. */
    byte[] named(byte[] by, int at) {
        return deciphered(Model.number4(by, at));
    }

    static void put4(byte[] bytes, int at, int number) {
        for (int i = 0; i < 4; i++) {
            bytes[at + i] = (byte) (number >> 24 - 8 * i);
        }
    }

    private static int[] words(byte[] bytes) {
        int[] words = new int[bytes.length / 4];
        Arrays.setAll(words, i -> Model.number4(bytes, 4 * i));
        return words;
    }

    private byte[] deciphered(int number) {
        return Model.Crypto.xts(false, new byte[32], number, raw(number));
    }

    private byte[] encipher(int number, byte[] plain) {
        byte[] raw = Model.Crypto.xts(true, new byte[32], number, plain);
        System.arraycopy(words(raw), 0, blocks[number], 0, 64);
        return Model.Crypto.sha(raw);
    }
}
