/** Ints outside of a range: next to its ends, and far off, where sums, differences and products wrap around. */
final class Ints {
    static final int LEAST = Integer.MIN_VALUE;
    static final int MOST = Integer.MAX_VALUE;

    /**
     * 2^30 times 4 and -2^30 times 4 are 0 in an int, 858,993,460 times 5 is 4, and 256 and 65,536 are 0 as a byte
     * and as a short: a check that comes after a product or a cast would let them pass.
     */
    private static final int[] FAR = {LEAST, LEAST + 1, -(1 << 30), -65536, -256, 256, 65536, 858993460, 1 << 30,
        MOST - 1, MOST};

    private Ints() {
    }

    static int[] outside(int least, int most) {
        int[] all = new int[FAR.length + 2];
        all[0] = least - 1;
        all[1] = most + 1;
        int count = 2;
        for (int value : FAR) {
            if (value < least || value > most) {
                all[count++] = value;
            }
        }
        return java.util.Arrays.copyOf(all, count);
    }

    /** What is no index of a row with so many places. */
    static int[] noIndex(int count) {
        return outside(0, count - 1);
    }
}
