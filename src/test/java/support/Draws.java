import java.util.function.Predicate;

/** The draws of the document, told again. */
final class Draws {
    int seed;

    Draws(int seed) {
        this.seed = seed;
    }

    int below(int n) {
        seed = (int) (seed * 1103515245L + 12345L);
        return (int) ((seed & 0xFFFFFFFFL) >> 16) % n;
    }

    /** The first SEED from 1 on whose draws fit. */
    static int seedBy(Predicate<Draws> fits) {
        for (int seed = 1; seed < 10000000; seed++) {
            if (fits.test(new Draws(seed))) {
                return seed;
            }
        }
        throw new IllegalArgumentException("no such draws");
    }

    /** The first SEED whose next draws are so: pairs of what it is drawn below and what is drawn, -1: anything. */
    static int seedOf(int... pairs) {
        return seedBy(draws -> {
            for (int i = 0; i + 1 < pairs.length; i += 2) {
                int drawn = draws.below(pairs[i]);
                if (pairs[i + 1] != -1 && drawn != pairs[i + 1]) {
                    return false;
                }
            }
            return true;
        });
    }
}
