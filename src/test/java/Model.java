import java.util.ArrayDeque;
import java.util.ArrayList;
import java.util.Comparator;
import java.util.Deque;
import java.util.List;
import java.util.Map;
import java.util.NoSuchElementException;
import java.util.TreeMap;
import java.util.regex.Matcher;
import java.util.regex.Pattern;

/**
 * The document's model in another way: states are never changed but replaced, polynomials are found by Newton's
 * divided differences, and programs are read by a regular expression.
 */
final class Model {
    private static final String D = "\\d";
    private static final String N = "\\d\\d?";
    private static final String COMMAND = "(?:bird " + D + "|move " + D + " " + D + "|split " + N + " " + D + " " + N
            + "|lose " + D + " " + N + "|spoil " + D + " " + N + " " + N + "|issue " + D + " " + N
            + "|refresh " + N + " " + N + "|forget " + N + ")";
    private static final Pattern PROGRAM = Pattern.compile(COMMAND + "(?:;" + COMMAND + ")*");

    private static final class State {
        final List<Integer> nests = new ArrayList<>();
        final TreeMap<Integer, Integer> thresholds = new TreeMap<>();
        final TreeMap<Integer, TreeMap<Integer, Integer>> shares = new TreeMap<>();
        int numbers = 0;
        long lost = 0;

        State copy() {
            State copy = new State();
            copy.nests.addAll(nests);
            copy.thresholds.putAll(thresholds);
            shares.forEach((secret, held) -> copy.shares.put(secret, new TreeMap<>(held)));
            copy.numbers = numbers;
            copy.lost = lost;
            return copy;
        }
    }

    private State state = new State();
    private State saved = null;
    private final Deque<State> earlier = new ArrayDeque<>();
    private String text = "";
    private String line = "";
    private Integer errorPosition = null;
    private Integer failedCommand = null;

    /** The answer to a call of the face, named as there; a refusal is thrown. */
    Object answer(String call, int... a) {
        switch (call) {
            case "addBird": case "move": case "split": case "lose": case "spoil": case "issue": case "refresh":
            case "forget":
                return changed(call, a);
            case "append":
                need(text.length() < 60, new IllegalStateException());
                text += (char) a[0];
                return text.length();
            case "run":
                return run();
            case "undo":
                need(!earlier.isEmpty(), new IllegalStateException());
                state = earlier.removeLast();
                return earlier.size();
            case "save":
                saved = state.copy();
                return "done";
            case "restore":
                need(saved != null, new IllegalStateException());
                state = saved.copy();
                earlier.clear();
                return "done";
            default:
                return query(call, a);
        }
    }

    private Object changed(String call, int... a) {
        State before = state.copy();
        Object answer = change(call, a);
        remember(before);
        return answer;
    }

    private void remember(State before) {
        earlier.addLast(before);
        if (earlier.size() > 8) {
            earlier.removeFirst();
        }
    }

    private int change(String call, int... a) {
        switch (call) {
            case "addBird":
                needNest(a[0]);
                need(state.nests.size() < 8, new IllegalStateException());
                state.nests.add(a[0]);
                return state.nests.size() - 1;
            case "move":
                needBird(a[0]);
                needNest(a[1]);
                return state.nests.set(a[0], a[1]);
            case "split":
                return split(a[0], a[1], a[2]);
            case "lose":
                needBird(a[0]);
                need(held(a[1]).containsKey(a[0]), new IllegalStateException());
                held(a[1]).remove(a[0]);
                state.lost++;
                return held(a[1]).size();
            case "spoil":
                needBird(a[0]);
                held(a[1]);
                need(a[2] >= 1 && a[2] <= 96, new IllegalArgumentException());
                need(held(a[1]).containsKey(a[0]), new IllegalStateException());
                held(a[1]).merge(a[0], a[2], (share, by) -> (share + by) % 97);
                return held(a[1]).get(a[0]);
            case "issue":
                needBird(a[0]);
                need(!held(a[1]).containsKey(a[0]), new IllegalStateException());
                need(canRebuild(a[1]), new UnsupportedOperationException());
                int share = newton(points(a[1], need(a[1])), a[0] + 1);
                held(a[1]).put(a[0], share);
                return share;
            case "refresh":
                return refresh(a[0], a[1]);
            default:
                int removed = held(a[0]).size();
                state.shares.remove(a[0]);
                state.thresholds.remove(a[0]);
                return removed;
        }
    }

    private int split(int value, int threshold, int seed) {
        need(value >= 0 && value <= 96 && threshold >= 1 && threshold <= 4 && seed >= 0 && seed <= 96,
                new IllegalArgumentException());
        need(state.shares.size() < 6 && state.nests.size() >= threshold, new IllegalStateException());
        TreeMap<Integer, Integer> dealt = new TreeMap<>();
        for (int bird = 0; bird < state.nests.size(); bird++) {
            double sum = value;
            for (int i = 1; i < threshold; i++) {
                sum += (seed * i + 7.0 * value + 13) * Math.pow(bird + 1, i);
            }
            dealt.put(bird, (int) (sum % 97));
        }
        state.numbers++;
        state.thresholds.put(state.numbers, threshold);
        state.shares.put(state.numbers, dealt);
        return state.numbers;
    }

    private int refresh(int secret, int seed) {
        Map<Integer, Integer> before = new TreeMap<>(held(secret));
        need(seed >= 0 && seed <= 96, new IllegalArgumentException());
        held(secret).replaceAll((bird, share) -> {
            double sum = share;
            for (int i = 1; i < need(secret); i++) {
                sum += (seed * i + 5) * Math.pow(bird + 1, i);
            }
            return (int) (sum % 97);
        });
        return (int) before.keySet().stream().filter(bird -> !before.get(bird).equals(held(secret).get(bird))).count();
    }

    private Object query(String call, int... a) {
        switch (call) {
            case "birdCount": return state.nests.size();
            case "nestOf": needBird(a[0]); return state.nests.get(a[0]);
            case "birdsIn": needNest(a[0]); return (int) state.nests.stream().filter(nest -> nest == a[0]).count();
            case "sharesOf": needBird(a[0]); return sharesOf(a[0]);
            case "birdAtRank": return birdAtRank(a[0]);
            case "secretCount": return state.shares.size();
            case "exists": return state.shares.containsKey(a[0]);
            case "secretAt":
                need(a[0] >= 0 && a[0] < state.shares.size(), new IndexOutOfBoundsException());
                return new ArrayList<>(state.shares.keySet()).get(a[0]);
            case "threshold": held(a[0]); return need(a[0]);
            case "holds": needBird(a[0]); return held(a[1]).containsKey(a[0]);
            case "share":
                needBird(a[0]);
                need(held(a[1]).containsKey(a[0]), new IllegalStateException());
                return held(a[1]).get(a[0]);
            case "holders": return held(a[0]).size();
            case "spareShares": return held(a[0]).size() - need(a[0]);
            case "canNestRebuild":
                needNest(a[0]);
                return held(a[1]).keySet().stream().filter(bird -> state.nests.get(bird) == a[0]).count() >= need(a[1]);
            case "shareTotal": return total();
            case "lostTotal": return state.lost;
            case "meanShares":
                need(!state.nests.isEmpty(), new ArithmeticException());
                return (double) total() / (double) state.nests.size();
            case "rebuildableShare":
                need(!state.shares.isEmpty(), new ArithmeticException());
                return (float) state.shares.keySet().stream().filter(this::canRebuild).count()
                        / (float) state.shares.size();
            case "isConsistent": return true;
            default: return rebuildingOrOutput(call, a);
        }
    }

    private Object rebuildingOrOutput(String call, int... a) {
        switch (call) {
            case "rebuild": case "rebuildByElimination":
                needRebuildable(a[0]);
                return newton(points(a[0], need(a[0])), 0);
            case "unfitShares":
                needRebuildable(a[0]);
                return unfit(a[0], points(a[0], need(a[0])));
            case "leastUnfitShares":
                needRebuildable(a[0]);
                return leastUnfit(a[0], new ArrayList<>(), points(a[0], 8));
            case "possibleValues": case "possibleValuesByTrying":
                held(a[0]);
                need(a[1] >= 0 && a[1] <= held(a[0]).size(), new IllegalArgumentException());
                return possible(a[0], a[1]);
            case "inverse":
                need(a[0] >= 1 && a[0] <= 96, new IllegalArgumentException());
                return inverse(a[0]);
            case "errorPosition": need(errorPosition != null, new NoSuchElementException()); return errorPosition;
            case "failedCommand": need(failedCommand != null, new NoSuchElementException()); return failedCommand;
            case "writeSecret": return writeSecret(a[0]);
            case "writeNests": return writeNests();
            case "outputAt":
                need(a[0] >= 0 && a[0] < line.length(), new IndexOutOfBoundsException());
                return line.charAt(a[0]);
            default: throw new Error("no such call: " + call);
        }
    }

    private int run() {
        String program = text;
        text = "";
        if (!PROGRAM.matcher(program).matches()) {
            errorPosition = longestPrefix(program);
            throw new IllegalArgumentException();
        }
        State before = state.copy();
        String[] commands = program.split(";");
        for (int i = 0; i < commands.length; i++) {
            try {
                command(commands[i].split(" "));
            } catch (RuntimeException e) {
                state = before;
                failedCommand = i;
                throw new UnsupportedOperationException();
            }
        }
        remember(before);
        return commands.length;
    }

    private void command(String[] words) {
        int[] a = new int[words.length - 1];
        for (int i = 0; i < a.length; i++) {
            a[i] = Integer.parseInt(words[i + 1]);
        }
        change(words[0].equals("bird") ? "addBird" : words[0], a);
    }

    private static int longestPrefix(String program) {
        int length = program.length();
        while (length > 0) {
            Matcher matcher = PROGRAM.matcher(program.substring(0, length));
            if (matcher.matches() || matcher.hitEnd()) {
                return length;
            }
            length--;
        }
        return 0;
    }

    private int writeSecret(int secret) {
        StringBuilder written = new StringBuilder();
        held(secret).forEach((bird, share) -> written.append(" " + bird + ":" + share));
        line = secret + "/" + need(secret) + written;
        return line.length();
    }

    private int writeNests() {
        line = "";
        for (int nest = 0; nest < 4; nest++) {
            line += "[";
            for (int bird = 0; bird < state.nests.size(); bird++) {
                line += state.nests.get(bird) == nest ? String.valueOf(bird) : "";
            }
            line += "]";
        }
        return line.length();
    }

    private int birdAtRank(int rank) {
        List<Integer> birds = new ArrayList<>();
        for (int bird = 0; bird < state.nests.size(); bird++) {
            birds.add(bird);
        }
        need(rank >= 0 && rank < birds.size(), new NoSuchElementException());
        birds.sort(Comparator.<Integer>comparingInt(bird -> -sharesOf(bird)).thenComparing(state.nests::get)
                .thenComparing(bird -> bird));
        return birds.get(rank);
    }

    private int sharesOf(int bird) {
        return (int) state.shares.values().stream().filter(held -> held.containsKey(bird)).count();
    }

    private int total() {
        return state.shares.values().stream().mapToInt(Map::size).sum();
    }

    private int need(int secret) {
        return state.thresholds.get(secret);
    }

    private boolean canRebuild(int secret) {
        return held(secret).size() >= need(secret);
    }

    /** The first shares, at most so many, as pairs of place and share. */
    private List<int[]> points(int secret, int most) {
        List<int[]> points = new ArrayList<>();
        held(secret).forEach((bird, share) -> {
            if (points.size() < most) {
                points.add(new int[] {bird + 1, share});
            }
        });
        return points;
    }

    private int unfit(int secret, List<int[]> chosen) {
        return (int) points(secret, 8).stream().filter(point -> newton(chosen, point[0]) != point[1]).count();
    }

    private int leastUnfit(int secret, List<int[]> chosen, List<int[]> left) {
        if (chosen.size() == need(secret)) {
            return unfit(secret, chosen);
        }
        int least = 100;
        for (int i = 0; i < left.size(); i++) {
            List<int[]> more = new ArrayList<>(chosen);
            more.add(left.get(i));
            least = Math.min(least, leastUnfit(secret, more, left.subList(i + 1, left.size())));
        }
        return least;
    }

    /** A value is possible if the differences of the order of the threshold and above all vanish. */
    private int possible(int secret, int known) {
        int values = 0;
        for (int value = 0; value < 97; value++) {
            List<int[]> points = points(secret, known);
            points.add(0, new int[] {0, value});
            int[] differences = differences(points);
            boolean fits = true;
            for (int i = need(secret); i < differences.length; i++) {
                fits = fits && differences[i] == 0;
            }
            values += fits ? 1 : 0;
        }
        return values;
    }

    private static int newton(List<int[]> points, int place) {
        int[] differences = differences(points);
        int sum = 0;
        int product = 1;
        for (int i = 0; i < differences.length; i++) {
            sum = Math.floorMod(sum + differences[i] * product, 97);
            product = Math.floorMod(product * (place - points.get(i)[0]), 97);
        }
        return sum;
    }

    private static int[] differences(List<int[]> points) {
        int[] differences = points.stream().mapToInt(point -> point[1]).toArray();
        for (int order = 1; order < differences.length; order++) {
            for (int i = differences.length - 1; i >= order; i--) {
                int span = Math.floorMod(points.get(i)[0] - points.get(i - order)[0], 97);
                differences[i] = Math.floorMod((differences[i] - differences[i - 1]) * inverse(span), 97);
            }
        }
        return differences;
    }

    private static int inverse(int number) {
        int inverse = 1;
        while (number * inverse % 97 != 1) {
            inverse++;
        }
        return inverse;
    }

    private TreeMap<Integer, Integer> held(int secret) {
        need(state.shares.containsKey(secret), new NoSuchElementException());
        return state.shares.get(secret);
    }

    private void needRebuildable(int secret) {
        held(secret);
        need(canRebuild(secret), new IllegalStateException());
    }

    private void needBird(int bird) {
        need(bird >= 0 && bird < state.nests.size(), new IndexOutOfBoundsException());
    }

    private static void needNest(int nest) {
        need(nest >= 0 && nest <= 3, new IllegalArgumentException());
    }

    private static void need(boolean holds, RuntimeException otherwise) {
        if (!holds) {
            throw otherwise;
        }
    }
}
