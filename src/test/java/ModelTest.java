import java.util.Arrays;
import java.util.Random;

/** Runs of 512 mixed calls on fresh objects, each answer compared with that of the other model. */
public final class ModelTest {
    private static final int RUNS = 400;
    private static final int CALLS = 512;
    private static final int MOST_REPORTS = 20;

    private static final String[] CHANGES = {"addBird", "move", "split", "lose", "spoil", "issue", "refresh", "forget"};
    private static final String[] STEPS = {"split", "lose", "lose", "spoil", "issue", "issue", "refresh", "move"};
    private static final String[] QUERIES = {"birdCount", "nestOf", "birdsIn", "sharesOf", "birdAtRank", "secretCount",
        "exists", "secretAt", "threshold", "holds", "share", "holders", "spareShares", "canNestRebuild", "rebuild",
        "rebuildByElimination", "unfitShares", "leastUnfitShares", "possibleValues", "possibleValuesByTrying",
        "inverse", "shareTotal", "lostTotal", "meanShares", "rebuildableShare", "isConsistent", "errorPosition",
        "failedCommand", "writeSecret", "writeNests", "outputAt"};
    private static final String[] PIECES = {"bird ", "move ", "split ", "lose ", "spoil ", "issue ", "refresh ",
        "forget ", ";", ";", " ", " ", "0", "1", "2", "3", "9", "42", "97", "sp", "x", "bi", "#", "%"};

    private final Random random;
    private final FeatherShares program = new FeatherShares();
    private final Model model = new Model();
    private final StringBuilder calls = new StringBuilder();
    private int made = 0;
    private boolean wrong = false;

    private ModelTest(int seed) {
        random = new Random(seed);
    }

    public static void main(String[] args) {
        int wrongRuns = 0;
        for (int run = 0; run < RUNS && wrongRuns < MOST_REPORTS; run++) {
            ModelTest test = new ModelTest(run);
            test.play();
            wrongRuns += test.wrong ? 1 : 0;
        }
        System.out.println("ModelTest: " + RUNS + " runs, " + wrongRuns + " wrong");
        if (wrongRuns != 0) {
            System.exit(1);
        }
    }

    private void play() {
        int birds = random.nextInt(4) == 0 ? random.nextInt(9) : 5 + random.nextInt(4);
        for (int i = 0; i < birds; i++) {
            compare("addBird", random.nextInt(4));
        }
        while (made < CALLS && !wrong) {
            int kind = random.nextInt(60);
            if (kind < 18) {
                compareWithArguments(STEPS[random.nextInt(STEPS.length)]);
            } else if (kind < 20) {
                compareWithArguments(CHANGES[random.nextInt(CHANGES.length)]);
            } else if (kind < 21) {
                typeAndRun();
            } else if (kind < 24) {
                String[] rare = {"undo", "undo", "undo", "save", "restore"};
                compare(rare[random.nextInt(rare.length)]);
            } else {
                compareWithArguments(QUERIES[random.nextInt(QUERIES.length)]);
            }
        }
    }

    private void typeAndRun() {
        StringBuilder text = new StringBuilder();
        int parts = 1 + random.nextInt(4);
        boolean tidy = random.nextInt(4) != 0;
        for (int i = 0; i < parts; i++) {
            text.append(tidy ? (i == 0 ? "" : ";") + command() : PIECES[random.nextInt(PIECES.length)]);
        }
        if (random.nextInt(8) == 0) {
            text.setCharAt(random.nextInt(text.length()), (char) random.nextInt(128));
        }
        for (int i = 0; i < text.length(); i++) {
            compare("append", text.charAt(i));
        }
        if (random.nextInt(10) != 0) {
            compare("run");
        }
    }

    private String command() {
        String name = random.nextInt(3) == 0 ? CHANGES[random.nextInt(CHANGES.length)]
                : STEPS[random.nextInt(STEPS.length)];
        StringBuilder command = new StringBuilder(name.equals("addBird") ? "bird" : name);
        for (int argument : arguments(name)) {
            command.append(' ').append(Math.min(Math.max(argument, 0), 99));
        }
        return command.toString();
    }

    private void compareWithArguments(String call) {
        compare(call, arguments(call));
    }

    private int[] arguments(String call) {
        switch (call) {
            case "addBird": case "birdsIn":
                return new int[] {nest()};
            case "move":
                return new int[] {bird(), nest()};
            case "split":
                return new int[] {residue(), odd() ? random.nextInt(7) - 1 : 1 + random.nextInt(4), residue()};
            case "lose": case "issue": case "holds": case "share":
                return new int[] {bird(), secret()};
            case "spoil":
                return new int[] {bird(), secret(), residue()};
            case "refresh":
                return new int[] {secret(), residue()};
            case "nestOf": case "sharesOf": case "birdAtRank":
                return new int[] {bird()};
            case "canNestRebuild":
                return new int[] {nest(), secret()};
            case "possibleValues": case "possibleValuesByTrying":
                return new int[] {secret(), bird()};
            case "inverse":
                return new int[] {residue()};
            case "secretAt":
                return new int[] {odd() ? oddNumber(6) : random.nextInt(6)};
            case "outputAt":
                return new int[] {odd() ? oddNumber(16) : random.nextInt(36)};
            default:
                return Calls.parameters(call) == 1 ? new int[] {secret()} : new int[0];
        }
    }

    private boolean odd() {
        return random.nextInt(15) == 0;
    }

    private int nest() {
        return odd() ? oddNumber(4) : random.nextInt(4);
    }

    private int bird() {
        int birds = (Integer) model.answer("birdCount");
        return odd() || birds == 0 ? oddNumber(birds) : random.nextInt(birds);
    }

    private int secret() {
        int secrets = (Integer) model.answer("secretCount");
        return odd() || secrets == 0 ? oddNumber(secrets) : (Integer) model.answer("secretAt", random.nextInt(secrets));
    }

    private int residue() {
        return odd() ? oddNumber(97) : random.nextInt(97);
    }

    /** Mostly at an edge of 0 to below the end, sometimes far out. */
    private int oddNumber(int end) {
        int[] numbers = {-1, 0, 1, end - 1, end, end + 1, -2, Integer.MIN_VALUE, Integer.MAX_VALUE, 64, 256};
        return numbers[random.nextInt(numbers.length)];
    }

    private void compare(String call, int... arguments) {
        if (made >= CALLS || wrong) {
            return;
        }
        made++;
        Object want = wanted(call, arguments);
        Object got = Calls.answer(program, call, arguments);
        calls.append(call).append(Arrays.toString(arguments)).append(" = ").append(got).append('\n');
        if (!want.equals(got)) {
            wrong = true;
            System.out.println("ModelTest: the last call's answer should be " + want + ":\n" + calls);
        }
    }

    private Object wanted(String call, int... arguments) {
        try {
            return model.answer(call, arguments);
        } catch (RuntimeException e) {
            return "throws." + e.getClass().getSimpleName();
        }
    }
}
