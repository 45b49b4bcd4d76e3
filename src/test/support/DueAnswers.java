import java.math.BigInteger;
import java.util.function.IntSupplier;
import java.util.function.LongPredicate;

/** What the tests share: asking and comparing, the document's DRAW, seeds to order, and houses. */
abstract class DueAnswers {
    static final String ARGUMENT = "throws.IllegalArgumentException";
    static final String STATE = "throws.IllegalStateException";
    static final int NONE = -1;

    private static final BigInteger WORD = BigInteger.ONE.shiftLeft(64);
    private static int wrong = 0;

    // ---- asking

    static String answer(IntSupplier call) {
        try {
            return Integer.toString(call.getAsInt());
        } catch (RuntimeException e) {
            return "throws." + e.getClass().getSimpleName();
        }
    }

    static void due(String call, IntSupplier asked, String want) {
        String got = answer(asked);
        if (!got.equals(want)) {
            tellWrong(call + " answered " + got + ", due is " + want);
        }
    }

    static void due(String call, IntSupplier asked, int want) {
        due(call, asked, Integer.toString(want));
    }

    static void tellWrong(String text) {
        wrong++;
        System.out.println(text);
    }

    static void end() {
        System.out.println(wrong == 0 ? "all answers are as due" : wrong + " answers are not as due");
        if (wrong != 0) {
            System.exit(1);
        }
    }

    // ---- the document's terms

    private static BigInteger hex(String digits) {
        return new BigInteger(digits, 16);
    }

    /** The document's mixing with numbers that have no sign and no end, cut at 64 bits. */
    static BigInteger mixed(long seed, int p, int k) {
        BigInteger z = BigInteger.valueOf(seed).mod(WORD);
        z = z.add(hex("9E3779B97F4A7C15").multiply(BigInteger.valueOf(8L * p + k + 1))).mod(WORD);
        z = z.xor(z.shiftRight(30)).multiply(hex("BF58476D1CE4E5B9")).mod(WORD);
        z = z.xor(z.shiftRight(27)).multiply(hex("94D049BB133111EB")).mod(WORD);
        return z.xor(z.shiftRight(31));
    }

    static int draw(long seed, int p, int k, int m) {
        return mixed(seed, p, k).shiftRight(1).mod(BigInteger.valueOf(m)).intValue();
    }

    static int desk(long seed, int p, int rooms) {
        return draw(seed, p, 0, rooms);
    }

    static int eatsIn(long seed, int p, int rooms) {
        return draw(seed, p, 3, rooms);
    }

    static int eatsFrom(long seed, int p, int comes) {
        return comes + 30 + draw(seed, p, 1, 90);
    }

    static int eatsUntil(long seed, int p, int comes) {
        return eatsFrom(seed, p, comes) + 20 + draw(seed, p, 2, 20);
    }

    static int leaves(long seed, int p, int comes) {
        return comes + 200 + draw(seed, p, 4, 200);
    }

    static long seedWith(LongPredicate wanted) {
        for (long seed = 1; seed < 1000000; seed++) {
            if (wanted.test(seed)) {
                return seed;
            }
        }
        throw new IllegalStateException("no seed for this test");
    }

    // ---- houses

    static PersonSeeds house(long seed, int... cells) {
        PersonSeeds x = new PersonSeeds(seed);
        for (int c : cells) {
            x.room(c);
        }
        return x;
    }

    static void runTo(PersonSeeds x, int from, int to) {
        for (int left = to - from; left > 0; left -= 500) {
            x.run(Math.min(left, 500));
        }
    }
}
