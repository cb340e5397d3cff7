import java.util.stream.IntStream;

/** Arguments at the edges of a range. */
final class Ints {
    private Ints() {
    }

    /** The next below and above, the ends of int, and what is in the range again if high bits are lost. */
    static int[] outside(int least, int greatest) {
        return IntStream.of(least - 1, greatest + 1, least - 2, greatest + 2, -1, -greatest - 1,
                Integer.MIN_VALUE, Integer.MIN_VALUE + 1, Integer.MIN_VALUE + greatest,
                Integer.MAX_VALUE, Integer.MAX_VALUE - 1, least + 32, least + 256, least + 65536, least + (1 << 28))
                .filter(value -> value < least || value > greatest).distinct().toArray();
    }

    static int[] outsideBut(int allowed, int least, int greatest) {
        return IntStream.of(outside(least, greatest)).filter(value -> value != allowed).toArray();
    }
}
