import java.util.List;

/** What the tests of the document's sentences share. */
abstract class Bounds {
    static final String ARGUMENT = "throws.IllegalArgumentException";
    static final String ARITHMETIC = "throws.ArithmeticException";
    static final String ELEMENT = "throws.NoSuchElementException";
    static final String INDEX = "throws.IndexOutOfBoundsException";
    static final String STATE = "throws.IllegalStateException";
    static final String UNSUPPORTED = "throws.UnsupportedOperationException";

    /** Stands for the argument whose range is tested. */
    static final int TESTED = 0x7e57ed;

    static final Check check = new Check("BoundsTest");

    static void due(Object want, FeatherShares x, String call, int... arguments) {
        check.equal(told(call, arguments), want, Calls.answer(x, call, arguments));
    }

    static void dueOfText(Object want, FeatherShares x, String text) {
        Play.type(x, text);
        check.equal("run of \"" + text + "\"", want, Calls.answer(x, "run"));
    }

    static void dueLine(String want, FeatherShares x) {
        check.equal("the line", want, Play.line(x));
    }

    /** The call is refused, and nothing is different after it. */
    static void inVain(Look.Maker maker, String want, String call, int... arguments) {
        due(want, maker.make(), call, arguments);
        same(told(call, arguments) + " in vain", Look.at(maker), Look.at(() -> {
            FeatherShares x = maker.make();
            Calls.answer(x, call, arguments);
            return x;
        }));
    }

    /** Refused in vain for the numbers next to a range, and for those farthest from it. */
    static void inVainOutside(int first, int last, Look.Maker maker, String want, String call, int... arguments) {
        for (int number : new int[] {first - 1, last + 1, Integer.MIN_VALUE, Integer.MAX_VALUE}) {
            inVain(maker, want, call, withTested(number, arguments));
        }
    }

    /** For the busy object, which has the birds 0 to 4. */
    static void inVainForNoBird(String call, int... arguments) {
        inVainOutside(0, 4, Play::busy, INDEX, call, arguments);
        inVain(FeatherShares::new, INDEX, call, withTested(0, arguments));
    }

    /** For the busy object, in which 2 is forgotten and 5 is the next number. */
    static void inVainForNoSecret(String call, int... arguments) {
        inVainOutside(1, 4, Play::busy, ELEMENT, call, arguments);
        inVain(Play::busy, ELEMENT, call, withTested(2, arguments));
        inVain(() -> Play.withBirds(0), ELEMENT, call, withTested(1, arguments));
    }

    static void same(String text, List<String> want, List<String> got) {
        for (int i = 0; i < want.size(); i++) {
            check.equal(text, want.get(i), got.get(i));
        }
    }

    private static int[] withTested(int number, int... arguments) {
        int[] filled = arguments.clone();
        for (int i = 0; i < filled.length; i++) {
            filled[i] = filled[i] == TESTED ? number : filled[i];
        }
        return filled;
    }

    private static String told(String call, int... arguments) {
        StringBuilder told = new StringBuilder(call).append('(');
        for (int i = 0; i < arguments.length; i++) {
            told.append(i == 0 ? "" : ", ").append(arguments[i]);
        }
        return told.append(')').toString();
    }
}
