import java.util.ArrayList;
import java.util.List;

/** All that calls can tell of an object, each part of it told by an object made anew, since telling changes it. */
final class Look {
    /** Makes an object by the same calls each time. */
    interface Maker {
        FeatherShares make();
    }

    private static final int MOST_UNDO = 8;
    private static final String[] OF_SECRETS = {"threshold", "holders", "spareShares", "rebuild",
        "rebuildByElimination", "unfitShares", "leastUnfitShares"};
    private static final String[] OF_ALL = {"birdCount", "secretCount", "shareTotal", "lostTotal", "meanShares",
        "rebuildableShare", "isConsistent"};

    private Look() {
    }

    static List<String> at(Maker maker) {
        List<String> told = atState(maker);
        told.add("the line: " + Play.line(maker.make()));
        FeatherShares x = maker.make();
        told.add("stored: " + Calls.answer(x, "errorPosition") + " " + Calls.answer(x, "failedCommand"));
        told.add("the text and one sign more: " + Calls.answer(x, "append", ';'));
        x = maker.make();
        told.add("the text run: " + Calls.answer(x, "run") + " " + Calls.answer(x, "errorPosition") + " "
                + Calls.answer(x, "failedCommand") + " " + state(x));
        return told;
    }

    /** What undo and restore concern: the state, those before it, the saved one and the next secret's number. */
    static List<String> atState(Maker maker) {
        List<String> told = new ArrayList<>();
        for (int undos = 0; undos <= MOST_UNDO + 1; undos++) {
            FeatherShares x = maker.make();
            StringBuilder answers = new StringBuilder();
            for (int i = 0; i < undos; i++) {
                answers.append(Calls.answer(x, "undo")).append(' ');
            }
            told.add("undone " + answers + "the state: " + state(x));
        }
        FeatherShares x = maker.make();
        told.add("restored " + Calls.answer(x, "restore") + " " + Calls.answer(x, "undo") + " " + state(x));
        told.add("the next number: " + nextNumber(maker.make()));
        return told;
    }

    private static Object nextNumber(FeatherShares x) {
        Calls.answer(x, "addBird", 0);
        Calls.answer(x, "forget", firstSecret(x));
        return Calls.answer(x, "split", 1, 1, 1);
    }

    private static int firstSecret(FeatherShares x) {
        return x.secretCount() == 0 ? 0 : x.secretAt(0);
    }

    static String state(FeatherShares x) {
        StringBuilder state = new StringBuilder("all");
        for (String call : OF_ALL) {
            state.append(' ').append(Calls.answer(x, call));
        }
        for (int bird = 0; bird < x.birdCount(); bird++) {
            state.append(", bird ").append(bird).append(": ").append(x.nestOf(bird)).append(' ')
                    .append(x.sharesOf(bird)).append(" rank ").append(bird).append(": ").append(x.birdAtRank(bird));
        }
        for (int position = 0; position < x.secretCount(); position++) {
            state.append(", ").append(secret(x, x.secretAt(position)));
        }
        return state.toString();
    }

    private static String secret(FeatherShares x, int number) {
        StringBuilder secret = new StringBuilder("secret ").append(number).append(':');
        for (String call : OF_SECRETS) {
            secret.append(' ').append(Calls.answer(x, call, number));
        }
        for (int bird = 0; bird < x.birdCount(); bird++) {
            secret.append(' ').append(x.holds(bird, number) ? Calls.answer(x, "share", bird, number) : "-");
        }
        return secret.toString();
    }
}
