import java.util.stream.IntStream;

/** Arguments about the edges of every range, and as far from them as a number can be. */
final class Numbers {
    static final int MIN = Integer.MIN_VALUE;
    static final int MAX = Integer.MAX_VALUE;

    private static final int[] FAR = {
        MIN, MIN + 1, MIN + 31, MIN / 2, -(1 << 28), -65536, -1000, -256, -255, -64, -32, -16, -5, -4, -3, -2, -1,
        30, 31, 32, 33, 62, 63, 64, 65, 127, 128, 254, 255, 256, 257, 998, 999, 1000, 1001, 65535, 65536,
        1 << 26, 1 << 27, 1 << 28, 1 << 29, 1 << 30, MAX - 31, MAX - 1, MAX,
    };

    private Numbers() {
    }

    /** The numbers from 0 to 17, and those about all other edges. */
    static int[] all() {
        return IntStream.concat(IntStream.of(FAR), IntStream.range(0, 18)).toArray();
    }

    /** Only few, for calls of which every triple of arguments is tried. */
    static int[] few() {
        return new int[] {MIN, -65536, -2, -1, 0, 1, 2, 3, 4, 9, 10, 15, 16, 31, 32, 63, 64, 255, 256, 1 << 28, MAX};
    }
}
