import java.util.Arrays;

/** Numbers at and beside the edges of a range, and numbers that a shorter type would take for others. */
final class Arguments {
    private Arguments() { }

    /** Edges of least .. most: inside and outside, the least and the greatest int among them. */
    static int[] edges(int least, int most) {
        return new int[] {Integer.MIN_VALUE, Integer.MIN_VALUE + 1, -65536 + least, -256 + least, least - 2,
            least - 1, least, most, most + 1, most + 2, 256 + most, 65536 + least, (1 << 30) + least,
            Integer.MAX_VALUE - 1, Integer.MAX_VALUE};
    }

    /** The edges that lie outside least .. most. */
    static int[] outside(int least, int most) {
        return Arrays.stream(edges(least, most)).filter(number -> !inside(number, least, most)).toArray();
    }

    static boolean inside(int number, int least, int most) {
        return least <= number && number <= most;
    }
}
