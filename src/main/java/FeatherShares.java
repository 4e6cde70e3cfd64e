import java.util.NoSuchElementException;

/** Secrets that are split into shares by polynomials modulo 97, and the birds that hold the shares. */
public final class FeatherShares {
    private static final int MODULUS = 97;
    private static final int NESTS = 4;
    private static final int MOST_BIRDS = 8;
    private static final int MOST_SECRETS = 6;
    private static final int MOST_THRESHOLD = 4;
    private static final int MOST_SIGNS = 60;
    private static final int MOST_UNDO = 8;
    private static final int MOST_ARGUMENTS = 3;
    private static final int NO_SHARE = -1;
    private static final int NONE_STORED = -1;
    private static final int SPLIT_VALUE_FACTOR = 7;
    private static final int SPLIT_OFFSET = 13;
    private static final int REFRESH_OFFSET = 5;

    private static final Deed[] DEEDS = Deed.values();

    private final State state;
    private final State saved;
    private final State beforeRun;
    private final History history;
    private final Rebuilder rebuilder;
    private final Changer changer;
    private final Program program;
    private final StringBuilder line;
    private boolean isSaved;
    private int storedError;
    private int storedFailure;

    public FeatherShares() {
        // The changer makes what it works on, since a constructor hands out no part of the object that it makes.
        changer = new Changer();
        state = changer.ownState();
        rebuilder = changer.ownRebuilder();
        saved = new State();
        beforeRun = new State();
        history = new History();
        program = new Program();
        line = new StringBuilder();
        isSaved = false;
        storedError = NONE_STORED;
        storedFailure = NONE_STORED;
    }

    // ---- birds

    public int addBird(int nest) throws IllegalArgumentException, IllegalStateException {
        return change(Deed.BIRD, nest, 0, 0);
    }

    public int move(int bird, int nest) throws IndexOutOfBoundsException, IllegalArgumentException {
        return change(Deed.MOVE, bird, nest, 0);
    }

    // ---- secrets and shares

    public int split(int value, int threshold, int seed) throws IllegalArgumentException, IllegalStateException {
        return change(Deed.SPLIT, value, threshold, seed);
    }

    public int lose(int bird, int secret)
            throws IndexOutOfBoundsException, NoSuchElementException, IllegalStateException {
        return change(Deed.LOSE, bird, secret, 0);
    }

    public int spoil(int bird, int secret, int by)
            throws IndexOutOfBoundsException, NoSuchElementException, IllegalArgumentException, IllegalStateException {
        return change(Deed.SPOIL, bird, secret, by);
    }

    public int issue(int bird, int secret) throws IndexOutOfBoundsException, NoSuchElementException,
            IllegalStateException, UnsupportedOperationException {
        return change(Deed.ISSUE, bird, secret, 0);
    }

    public int refresh(int secret, int seed) throws NoSuchElementException, IllegalArgumentException {
        return change(Deed.REFRESH, secret, seed, 0);
    }

    public int forget(int secret) throws NoSuchElementException {
        return change(Deed.FORGET, secret, 0, 0);
    }

    // ---- queries about birds

    public int birdCount() {
        return state.birdTally();
    }

    public int nestOf(int bird) throws IndexOutOfBoundsException {
        requireBird(bird);
        return state.homeOf(bird);
    }

    public int birdsIn(int nest) throws IllegalArgumentException {
        requireNest(nest);
        return state.residentsOf(nest);
    }

    public int sharesOf(int bird) throws IndexOutOfBoundsException {
        requireBird(bird);
        return state.loadOf(bird);
    }

    public int birdAtRank(int rank) throws NoSuchElementException {
        if (rank < 0 || rank >= state.birdTally()) {
            throw new NoSuchElementException("no bird has this rank");
        }
        return state.birdRanked(rank);
    }

    // ---- queries about secrets and shares

    public int secretCount() {
        return state.secretTally();
    }

    public boolean exists(int secret) {
        return state.find(secret) != null;
    }

    public int secretAt(int position) throws IndexOutOfBoundsException {
        Secret found = state.secretPlaced(position);
        if (found == null) {
            throw new IndexOutOfBoundsException("no secret has this position");
        }
        return found.ownNumber();
    }

    public int threshold(int secret) throws NoSuchElementException {
        return existing(secret).need();
    }

    public boolean holds(int bird, int secret) throws IndexOutOfBoundsException, NoSuchElementException {
        requireBird(bird);
        return existing(secret).isHeldBy(bird);
    }

    public int share(int bird, int secret)
            throws IndexOutOfBoundsException, NoSuchElementException, IllegalStateException {
        requireBird(bird);
        Secret found = existing(secret);
        if (!found.isHeldBy(bird)) {
            throw new IllegalStateException("the bird does not hold a share of it");
        }
        return found.shareWith(bird);
    }

    public int holders(int secret) throws NoSuchElementException {
        return existing(secret).holderTally();
    }

    public int spareShares(int secret) throws NoSuchElementException {
        Secret found = existing(secret);
        return found.holderTally() - found.need();
    }

    public boolean canNestRebuild(int nest, int secret) throws IllegalArgumentException, NoSuchElementException {
        requireNest(nest);
        Secret found = existing(secret);
        return state.holdersIn(nest, found) >= found.need();
    }

    // ---- rebuilding

    public int rebuild(int secret) throws NoSuchElementException, IllegalStateException {
        return rebuilder.valueAt(rebuildable(secret), 0);
    }

    public int rebuildByElimination(int secret) throws NoSuchElementException, IllegalStateException {
        return rebuilder.valueByElimination(rebuildable(secret));
    }

    public int unfitShares(int secret) throws NoSuchElementException, IllegalStateException {
        return rebuilder.unfitWithLeading(rebuildable(secret));
    }

    public int leastUnfitShares(int secret) throws NoSuchElementException, IllegalStateException {
        return rebuilder.leastUnfit(rebuildable(secret));
    }

    public int possibleValues(int secret, int known) throws NoSuchElementException, IllegalArgumentException {
        return rebuilder.valuesByFit(withKnown(secret, known), known);
    }

    public int possibleValuesByTrying(int secret, int known) throws NoSuchElementException, IllegalArgumentException {
        return rebuilder.valuesByTrial(withKnown(secret, known), known);
    }

    public int inverse(int number) throws IllegalArgumentException {
        if (number < 1 || number >= MODULUS) {
            throw new IllegalArgumentException("the number is out of range");
        }
        return Residues.inverseOf(number);
    }

    // ---- totals

    public int shareTotal() {
        return state.allShares();
    }

    public long lostTotal() {
        return state.lossTally();
    }

    public double meanShares() throws ArithmeticException {
        int birds = state.birdTally();
        if (birds <= 0) {
            throw new ArithmeticException("there are no birds");
        }
        return (double) state.allShares() / (double) birds;
    }

    public float rebuildableShare() throws ArithmeticException {
        int secrets = state.secretTally();
        if (secrets <= 0) {
            throw new ArithmeticException("there are no secrets");
        }
        return (float) state.rebuildableTally() / (float) secrets;
    }

    public boolean isConsistent() {
        for (int position = 0; position < MOST_SECRETS; position++) {
            Secret secret = state.secretPlaced(position);
            if (secret != null && !rebuilder.agreesOn(secret)) {
                return false;
            }
        }
        return true;
    }

    // ---- programs

    public int append(char character) throws IllegalStateException {
        if (!program.accept(character)) {
            throw new IllegalStateException("the text buffer is full");
        }
        return program.size();
    }

    public int run() throws IllegalArgumentException, UnsupportedOperationException {
        int error = program.findError();
        if (error != NONE_STORED) {
            storedError = error;
            program.empty();
            throw new IllegalArgumentException("the text is not a program");
        }
        beforeRun.copyFrom(state);
        int carriedOut = carryOutProgram();
        boolean failed = !program.isAtEnd();
        program.empty();
        if (failed) {
            state.copyFrom(beforeRun);
            storedFailure = carriedOut;
            throw new UnsupportedOperationException("a command failed");
        }
        history.remember(beforeRun);
        return carriedOut;
    }

    public int errorPosition() throws NoSuchElementException {
        if (storedError == NONE_STORED) {
            throw new NoSuchElementException("no error position was stored");
        }
        return storedError;
    }

    public int failedCommand() throws NoSuchElementException {
        if (storedFailure == NONE_STORED) {
            throw new NoSuchElementException("no failed command was stored");
        }
        return storedFailure;
    }

    // ---- output

    public int writeSecret(int secret) throws NoSuchElementException {
        Secret found = existing(secret);
        line.setLength(0);
        line.append(found.ownNumber()).append('/').append(found.need());
        for (int bird = 0; bird < MOST_BIRDS; bird++) {
            if (found.isHeldBy(bird)) {
                line.append(' ').append(bird).append(':').append(found.shareWith(bird));
            }
        }
        return line.length();
    }

    public int writeNests() {
        line.setLength(0);
        for (int nest = 0; nest < NESTS; nest++) {
            line.append('[');
            for (int bird = 0; bird < state.birdTally(); bird++) {
                if (state.homeOf(bird) == nest) {
                    line.append(bird);
                }
            }
            line.append(']');
        }
        return line.length();
    }

    public char outputAt(int index) throws IndexOutOfBoundsException {
        if (index < 0 || index >= line.length()) {
            throw new IndexOutOfBoundsException("the line has no such index");
        }
        return line.charAt(index);
    }

    // ---- undo and snapshot

    public int undo() throws IllegalStateException {
        if (history.size() == 0) {
            throw new IllegalStateException("no call can be undone");
        }
        history.takeBack(state);
        return history.size();
    }

    public void save() {
        saved.copyFrom(state);
        isSaved = true;
    }

    public void restore() throws IllegalStateException {
        if (!isSaved) {
            throw new IllegalStateException("no state was saved");
        }
        state.copyFrom(saved);
        history.empty();
    }

    // ---- what the calls share

    private int change(Deed deed, int first, int second, int third) {
        raise(changer.problemWith(deed, first, second, third));
        history.remember(state);
        return changer.carryOut(deed, first, second, third);
    }

    /** Stops at the first command that fails; the program is at its end only if none did. */
    private int carryOutProgram() {
        int carriedOut = 0;
        program.rewind();
        while (carriedOut < MOST_SIGNS && !program.isAtEnd()) {
            program.readCommand();
            Deed deed = program.deed();
            int first = program.argument(0);
            int second = program.argument(1);
            int third = program.argument(2);
            if (changer.problemWith(deed, first, second, third) != Problem.NONE) {
                return carriedOut;
            }
            changer.carryOut(deed, first, second, third);
            program.passCommand();
            carriedOut++;
        }
        return carriedOut;
    }

    private static void raise(Problem problem) {
        switch (problem) {
            case ARGUMENT:
                throw new IllegalArgumentException("an argument is out of range");
            case BIRD:
                throw new IndexOutOfBoundsException("there is no such bird");
            case SECRET:
                throw new NoSuchElementException("there is no such secret");
            case STATE:
                throw new IllegalStateException("the state does not allow the call");
            case HOLDERS:
                throw new UnsupportedOperationException("there are fewer holders than the threshold");
            default:
                break;
        }
    }

    private void requireBird(int bird) {
        if (!state.hasBird(bird)) {
            throw new IndexOutOfBoundsException("there is no such bird");
        }
    }

    private static void requireNest(int nest) {
        if (!State.isNest(nest)) {
            throw new IllegalArgumentException("the nest is out of range");
        }
    }

    private Secret existing(int number) {
        Secret found = state.find(number);
        if (found == null) {
            throw new NoSuchElementException("there is no such secret");
        }
        return found;
    }

    private Secret rebuildable(int number) {
        Secret found = existing(number);
        if (!found.isRebuildable()) {
            throw new IllegalStateException("there are fewer holders than the threshold");
        }
        return found;
    }

    private Secret withKnown(int number, int shares) {
        Secret found = existing(number);
        if (shares < 0 || shares > found.holderTally()) {
            throw new IllegalArgumentException("the number of known shares is out of range");
        }
        return found;
    }

    /** Why a change is refused; a program needs the reason as a value, since its commands may fail. */
    private enum Problem {
        NONE, ARGUMENT, BIRD, SECRET, STATE, HOLDERS
    }

    /** The changes that a command can name; in a form # stands for one digit and % for a number. */
    private enum Deed {
        BIRD("bird #"),
        MOVE("move # #"),
        SPLIT("split % # %"),
        LOSE("lose # %"),
        SPOIL("spoil # % %"),
        ISSUE("issue # %"),
        REFRESH("refresh % %"),
        FORGET("forget %");

        private final String form;

        Deed(String form) {
            this.form = form;
        }

        String commandForm() {
            return form;
        }
    }

    /** Arithmetic modulo 97. */
    private static final class Residues {
        private static final int INVERSE_EXPONENT = MODULUS - 2;
        private static final int EXPONENT_BITS = 7;

        /** The power with the exponent 95, since each number's 96th power is 1 (Fermat). */
        static int inverseOf(int number) {
            int base = number % MODULUS;
            int product = 1;
            for (int bit = 0; bit < EXPONENT_BITS; bit++) {
                if ((INVERSE_EXPONENT >> bit & 1) == 1) {
                    product = product * base % MODULUS;
                }
                base = base * base % MODULUS;
            }
            return product;
        }

        /** For numbers that are not negative. */
        static int difference(int number, int less) {
            return (number + MODULUS - less % MODULUS) % MODULUS;
        }

        /** The polynomial whose coefficient for each power i from 1 is the seed times i plus the offset. */
        static int seededValue(int constant, int seed, int offset, int threshold, int place) {
            int sum = constant;
            int power = 1;
            for (int i = 1; i < threshold; i++) {
                power = power * place % MODULUS;
                sum = (sum + (seed * i + offset) % MODULUS * power) % MODULUS;
            }
            return sum;
        }
    }

    /** A secret's number, threshold and shares; bird b's place is b + 1. */
    private static final class Secret {
        private final int[] shares = new int[MOST_BIRDS];
        private int number;
        private int threshold;

        void begin(int newNumber, int newThreshold) {
            number = newNumber;
            threshold = newThreshold;
            for (int bird = 0; bird < MOST_BIRDS; bird++) {
                shares[bird] = NO_SHARE;
            }
        }

        void copyFrom(Secret other) {
            number = other.number;
            threshold = other.threshold;
            System.arraycopy(other.shares, 0, shares, 0, MOST_BIRDS);
        }

        int ownNumber() {
            return number;
        }

        int need() {
            return threshold;
        }

        boolean isHeldBy(int bird) {
            return bird >= 0 && bird < MOST_BIRDS && shares[bird] != NO_SHARE;
        }

        int shareWith(int bird) {
            return bird >= 0 && bird < MOST_BIRDS ? shares[bird] : NO_SHARE;
        }

        void give(int bird, int share) {
            if (bird >= 0 && bird < MOST_BIRDS) {
                shares[bird] = share;
            }
        }

        int holderTally() {
            return Integer.bitCount(firstHolders(MOST_BIRDS));
        }

        boolean isRebuildable() {
            return holderTally() >= threshold;
        }

        /** The first holders, at most so many, as a set of bits: bit b stands for bird b. */
        int firstHolders(int most) {
            int set = 0;
            int found = 0;
            for (int bird = 0; bird < MOST_BIRDS && found < most; bird++) {
                if (shares[bird] != NO_SHARE) {
                    set = set | (1 << bird);
                    found++;
                }
            }
            return set;
        }

        void dealTo(int birds, int value, int seed) {
            int offset = SPLIT_VALUE_FACTOR * value + SPLIT_OFFSET;
            for (int bird = 0; bird < birds; bird++) {
                give(bird, Residues.seededValue(value, seed, offset, threshold, bird + 1));
            }
        }

        int addRefreshing(int seed) {
            int different = 0;
            for (int bird = 0; bird < MOST_BIRDS; bird++) {
                int added = Residues.seededValue(0, seed, REFRESH_OFFSET, threshold, bird + 1);
                if (shares[bird] != NO_SHARE && added != 0) {
                    shares[bird] = (shares[bird] + added) % MODULUS;
                    different++;
                }
            }
            return different;
        }
    }

    /** All that undo, save and restore concern. */
    private static final class State {
        private final int[] homes = new int[MOST_BIRDS];
        private final Secret[] secrets = new Secret[MOST_SECRETS];
        private int birds;
        private int secretsInUse;
        private int lastNumber;
        private long losses;

        State() {
            for (int position = 0; position < MOST_SECRETS; position++) {
                secrets[position] = new Secret();
            }
        }

        void copyFrom(State other) {
            System.arraycopy(other.homes, 0, homes, 0, MOST_BIRDS);
            for (int position = 0; position < MOST_SECRETS; position++) {
                secrets[position].copyFrom(other.secrets[position]);
            }
            birds = other.birds;
            secretsInUse = other.secretsInUse;
            lastNumber = other.lastNumber;
            losses = other.losses;
        }

        static boolean isNest(int nest) {
            return nest >= 0 && nest < NESTS;
        }

        int birdTally() {
            return birds;
        }

        boolean hasBird(int bird) {
            return bird >= 0 && bird < birds;
        }

        int homeOf(int bird) {
            return bird >= 0 && bird < MOST_BIRDS ? homes[bird] : 0;
        }

        int residentsOf(int nest) {
            int residents = 0;
            for (int bird = 0; bird < birds; bird++) {
                if (homeOf(bird) == nest) {
                    residents++;
                }
            }
            return residents;
        }

        int loadOf(int bird) {
            int load = 0;
            for (int position = 0; position < MOST_SECRETS; position++) {
                Secret secret = secretPlaced(position);
                if (secret != null && secret.isHeldBy(bird)) {
                    load++;
                }
            }
            return load;
        }

        int birdRanked(int rank) {
            for (int bird = 0; bird < birds; bird++) {
                if (birdsAheadOf(bird) == rank) {
                    return bird;
                }
            }
            return 0;
        }

        private int birdsAheadOf(int bird) {
            int ahead = 0;
            for (int other = 0; other < birds; other++) {
                if (other != bird && isAhead(other, bird)) {
                    ahead++;
                }
            }
            return ahead;
        }

        private boolean isAhead(int bird, int other) {
            int load = loadOf(bird);
            int otherLoad = loadOf(other);
            if (load != otherLoad) {
                return load > otherLoad;
            }
            if (homeOf(bird) != homeOf(other)) {
                return homeOf(bird) < homeOf(other);
            }
            return bird < other;
        }

        int secretTally() {
            return secretsInUse;
        }

        /** Null if there is none; the secrets in use stand first, in the order of their numbers. */
        Secret secretPlaced(int position) {
            if (position < 0 || position >= secretsInUse || position >= MOST_SECRETS) {
                return null;
            }
            return secrets[position];
        }

        Secret find(int number) {
            for (int position = 0; position < MOST_SECRETS; position++) {
                Secret secret = secretPlaced(position);
                if (secret != null && secret.ownNumber() == number) {
                    return secret;
                }
            }
            return null;
        }

        int holdersIn(int nest, Secret secret) {
            int found = 0;
            for (int bird = 0; bird < birds; bird++) {
                if (homeOf(bird) == nest && secret.isHeldBy(bird)) {
                    found++;
                }
            }
            return found;
        }

        int allShares() {
            int total = 0;
            for (int bird = 0; bird < birds; bird++) {
                total += loadOf(bird);
            }
            return total;
        }

        int rebuildableTally() {
            int found = 0;
            for (int position = 0; position < MOST_SECRETS; position++) {
                Secret secret = secretPlaced(position);
                if (secret != null && secret.isRebuildable()) {
                    found++;
                }
            }
            return found;
        }

        long lossTally() {
            return losses;
        }

        void countLoss() {
            losses++;
        }

        int settle(int nest) {
            if (birds < MOST_BIRDS) {
                homes[birds] = nest;
                birds++;
            }
            return birds - 1;
        }

        int resettle(int bird, int nest) {
            int before = homeOf(bird);
            if (bird >= 0 && bird < MOST_BIRDS) {
                homes[bird] = nest;
            }
            return before;
        }

        int open(int value, int threshold, int seed) {
            if (secretsInUse < MOST_SECRETS) {
                lastNumber++;
                secrets[secretsInUse].begin(lastNumber, threshold);
                secrets[secretsInUse].dealTo(birds, value, seed);
                secretsInUse++;
            }
            return lastNumber;
        }

        /** The closed secret's object goes behind those in use, to be used again. */
        void close(Secret closed) {
            int kept = 0;
            for (int position = 0; position < secretsInUse && position < MOST_SECRETS; position++) {
                if (secrets[position] != closed) {
                    secrets[kept] = secrets[position];
                    kept++;
                }
            }
            if (kept < secretsInUse) {
                secrets[kept] = closed;
                secretsInUse = kept;
            }
        }
    }

    /** The polynomial of the least degree through some points, by the formula of Lagrange. */
    private static final class Points {
        private final int[] places = new int[MOST_BIRDS];
        private final int[] values = new int[MOST_BIRDS];
        private int count;

        void takeFrom(Secret secret, int birdSet) {
            count = 0;
            for (int bird = 0; bird < MOST_BIRDS; bird++) {
                if ((birdSet >> bird & 1) == 1) {
                    places[count] = bird + 1;
                    values[count] = secret.shareWith(bird);
                    count++;
                }
            }
        }

        int valueAt(int place) {
            int sum = 0;
            for (int i = 0; i < count; i++) {
                int above = 1;
                int below = 1;
                for (int j = 0; j < count; j++) {
                    if (j != i) {
                        above = above * Residues.difference(place, places[j]) % MODULUS;
                        below = below * Residues.difference(places[i], places[j]) % MODULUS;
                    }
                }
                sum = (sum + values[i] * above % MODULUS * Residues.inverseOf(below)) % MODULUS;
            }
            return sum;
        }
    }

    /** Linear equations for the coefficients of a polynomial, brought to steps one by one. */
    private static final class Equations {
        /** The row of a column begins with 1 in this column; behind the coefficients stands the right side. */
        private final int[][] rows = new int[MOST_THRESHOLD][MOST_THRESHOLD + 1];
        private final boolean[] isLed = new boolean[MOST_THRESHOLD];
        private final int[] fresh = new int[MOST_THRESHOLD + 1];
        private final int[] solution = new int[MOST_THRESHOLD];
        private int unknowns;

        void begin(int coefficients) {
            unknowns = Math.min(Math.max(coefficients, 0), MOST_THRESHOLD);
            for (int column = 0; column < MOST_THRESHOLD; column++) {
                isLed[column] = false;
            }
        }

        /** Whether the equation can hold together with those taken before. */
        boolean take(int place, int value) {
            int power = 1;
            for (int column = 0; column < unknowns; column++) {
                fresh[column] = power;
                power = power * place % MODULUS;
            }
            fresh[unknowns] = value;
            for (int column = 0; column < unknowns; column++) {
                if (fresh[column] != 0) {
                    if (!isLed[column]) {
                        leadWithFresh(column);
                        return true;
                    }
                    clearFresh(column);
                }
            }
            return fresh[unknowns] == 0;
        }

        private void leadWithFresh(int column) {
            int factor = Residues.inverseOf(fresh[column]);
            for (int i = 0; i <= unknowns; i++) {
                rows[column][i] = fresh[i] * factor % MODULUS;
            }
            isLed[column] = true;
        }

        private void clearFresh(int column) {
            int factor = fresh[column];
            for (int i = column; i <= unknowns; i++) {
                fresh[i] = Residues.difference(fresh[i], factor * rows[column][i]);
            }
        }

        /** The coefficient for the power 0, once there are as many different places as coefficients. */
        int constant() {
            for (int column = unknowns - 1; column >= 0; column--) {
                int right = rows[column][unknowns];
                for (int i = column + 1; i < unknowns; i++) {
                    right = Residues.difference(right, rows[column][i] * solution[i]);
                }
                solution[column] = right;
            }
            return solution[0];
        }
    }

    /** Rebuilds secrets from their shares in two ways that know nothing of one another. */
    private static final class Rebuilder {
        private static final int BIRD_SETS = 1 << MOST_BIRDS;

        private final Points points = new Points();
        private final Equations equations = new Equations();

        int valueAt(Secret secret, int place) {
            points.takeFrom(secret, secret.firstHolders(secret.need()));
            return points.valueAt(place);
        }

        int valueByElimination(Secret secret) {
            equations.begin(secret.need());
            canTakeAll(secret, secret.firstHolders(secret.need()));
            return equations.constant();
        }

        private boolean canTakeAll(Secret secret, int birdSet) {
            for (int bird = 0; bird < MOST_BIRDS; bird++) {
                if ((birdSet >> bird & 1) == 1 && !equations.take(bird + 1, secret.shareWith(bird))) {
                    return false;
                }
            }
            return true;
        }

        int unfitWithLeading(Secret secret) {
            return unfit(secret, secret.firstHolders(secret.need()), secret.firstHolders(MOST_BIRDS));
        }

        private int unfit(Secret secret, int chosen, int tested) {
            int found = 0;
            points.takeFrom(secret, chosen);
            for (int bird = 0; bird < MOST_BIRDS; bird++) {
                if ((tested >> bird & 1) == 1 && points.valueAt(bird + 1) != secret.shareWith(bird)) {
                    found++;
                }
            }
            return found;
        }

        int leastUnfit(Secret secret) {
            int holding = secret.firstHolders(MOST_BIRDS);
            int least = MOST_BIRDS;
            for (int chosen = 0; chosen < BIRD_SETS; chosen++) {
                if ((chosen & ~holding) == 0 && Integer.bitCount(chosen) == secret.need()) {
                    // The chosen shares fit themselves.
                    least = Math.min(least, unfit(secret, chosen, holding & ~chosen));
                }
            }
            return least;
        }

        int valuesByFit(Secret secret, int knownShares) {
            if (knownShares < secret.need()) {
                return MODULUS;
            }
            int leading = secret.firstHolders(secret.need());
            return unfit(secret, leading, secret.firstHolders(knownShares)) == 0 ? 1 : 0;
        }

        int valuesByTrial(Secret secret, int knownShares) {
            int knowing = secret.firstHolders(knownShares);
            int values = 0;
            for (int value = 0; value < MODULUS; value++) {
                equations.begin(secret.need());
                if (equations.take(0, value) && canTakeAll(secret, knowing)) {
                    values++;
                }
            }
            return values;
        }

        boolean agreesOn(Secret secret) {
            if (secret.isRebuildable() && valueAt(secret, 0) != valueByElimination(secret)) {
                return false;
            }
            int all = secret.holderTally();
            return valuesByFit(secret, all) == valuesByTrial(secret, all);
        }
    }

    /** Tests and carries out the changes, for the calls and for the commands of a program. */
    private static final class Changer {
        private final State state = new State();
        private final Rebuilder rebuilder = new Rebuilder();

        State ownState() {
            return state;
        }

        Rebuilder ownRebuilder() {
            return rebuilder;
        }

        Problem problemWith(Deed deed, int first, int second, int third) {
            switch (deed) {
                case BIRD:
                    return problemWithBird(first);
                case MOVE:
                    return problemWithMove(first, second);
                case SPLIT:
                    return problemWithSplit(first, second, third);
                case REFRESH:
                    return problemWithRefresh(first, second);
                case FORGET:
                    return state.find(first) == null ? Problem.SECRET : Problem.NONE;
                default:
                    return problemWithShare(deed, first, state.find(second), third);
            }
        }

        private Problem problemWithBird(int nest) {
            if (!State.isNest(nest)) {
                return Problem.ARGUMENT;
            }
            return state.birdTally() >= MOST_BIRDS ? Problem.STATE : Problem.NONE;
        }

        private Problem problemWithMove(int bird, int nest) {
            if (!state.hasBird(bird)) {
                return Problem.BIRD;
            }
            return State.isNest(nest) ? Problem.NONE : Problem.ARGUMENT;
        }

        private Problem problemWithSplit(int value, int threshold, int seed) {
            if (!isResidue(value) || threshold < 1 || threshold > MOST_THRESHOLD || !isResidue(seed)) {
                return Problem.ARGUMENT;
            }
            if (state.secretTally() >= MOST_SECRETS || state.birdTally() < threshold) {
                return Problem.STATE;
            }
            return Problem.NONE;
        }

        private Problem problemWithRefresh(int number, int seed) {
            if (state.find(number) == null) {
                return Problem.SECRET;
            }
            return isResidue(seed) ? Problem.NONE : Problem.ARGUMENT;
        }

        private Problem problemWithShare(Deed deed, int bird, Secret secret, int by) {
            if (!state.hasBird(bird)) {
                return Problem.BIRD;
            }
            if (secret == null) {
                return Problem.SECRET;
            }
            if (deed == Deed.SPOIL && (by == 0 || !isResidue(by))) {
                return Problem.ARGUMENT;
            }
            // Only issue asks for a bird without a share.
            if (secret.isHeldBy(bird) == (deed == Deed.ISSUE)) {
                return Problem.STATE;
            }
            return deed == Deed.ISSUE && !secret.isRebuildable() ? Problem.HOLDERS : Problem.NONE;
        }

        private static boolean isResidue(int number) {
            return number >= 0 && number < MODULUS;
        }

        /** For changes with which there is no problem. */
        int carryOut(Deed deed, int first, int second, int third) {
            switch (deed) {
                case BIRD:
                    return state.settle(first);
                case MOVE:
                    return state.resettle(first, second);
                case SPLIT:
                    return state.open(first, second, third);
                case REFRESH:
                    return refreshed(state.find(first), second);
                case FORGET:
                    return forgotten(state.find(first));
                default:
                    return shareChanged(deed, first, state.find(second), third);
            }
        }

        private int refreshed(Secret secret, int seed) {
            return secret == null ? 0 : secret.addRefreshing(seed);
        }

        private int forgotten(Secret secret) {
            if (secret == null) {
                return 0;
            }
            state.close(secret);
            return secret.holderTally();
        }

        private int shareChanged(Deed deed, int bird, Secret secret, int by) {
            if (secret == null) {
                return 0;
            }
            switch (deed) {
                case LOSE:
                    secret.give(bird, NO_SHARE);
                    state.countLoss();
                    return secret.holderTally();
                case SPOIL:
                    secret.give(bird, (secret.shareWith(bird) + by) % MODULUS);
                    return secret.shareWith(bird);
                default:
                    secret.give(bird, rebuilder.valueAt(secret, bird + 1));
                    return secret.shareWith(bird);
            }
        }
    }

    /** The states before the most recent changing calls. */
    private static final class History {
        private final State[] states = new State[MOST_UNDO];
        private int count;
        private int next;

        History() {
            for (int i = 0; i < MOST_UNDO; i++) {
                states[i] = new State();
            }
        }

        int size() {
            return count;
        }

        void remember(State before) {
            states[next].copyFrom(before);
            next = (next + 1) % MOST_UNDO;
            count = Math.min(count + 1, MOST_UNDO);
        }

        void takeBack(State state) {
            if (count > 0) {
                next = (next + MOST_UNDO - 1) % MOST_UNDO;
                count--;
                state.copyFrom(states[next]);
            }
        }

        void empty() {
            count = 0;
        }
    }

    /** The text buffer and the command that is read from it. */
    private static final class Program {
        private static final int END = -1;

        /** Not a String, since the buffer takes any character. */
        private final char[] text = new char[MOST_SIGNS];
        private final int[] arguments = new int[MOST_ARGUMENTS];
        private Deed deed = Deed.BIRD;
        private int length;
        private int start;
        private int reached;
        private int argumentsRead;

        boolean accept(char sign) {
            if (length >= MOST_SIGNS) {
                return false;
            }
            text[length] = sign;
            length++;
            return true;
        }

        int size() {
            return length;
        }

        void empty() {
            length = 0;
        }

        void rewind() {
            start = 0;
        }

        boolean isAtEnd() {
            return start >= length;
        }

        Deed deed() {
            return deed;
        }

        int argument(int index) {
            return index >= 0 && index < argumentsRead && index < MOST_ARGUMENTS ? arguments[index] : 0;
        }

        /** The error position, or NONE_STORED if the text is a program. */
        int findError() {
            rewind();
            for (int commands = 0; commands <= MOST_SIGNS; commands++) {
                if (!readCommand()) {
                    return reached;
                }
                if (reached >= length) {
                    return NONE_STORED;
                }
                if (signAt(reached) != ';') {
                    return reached;
                }
                passCommand();
            }
            return length;
        }

        /** Goes behind the command that was read and the sign that ends it. */
        void passCommand() {
            start = reached + 1;
        }

        /** If no command stands here, reached is where the one that fits longest breaks off. */
        boolean readCommand() {
            int furthest = start;
            for (int i = 0; i < DEEDS.length; i++) {
                if (hasForm(DEEDS[i].commandForm())) {
                    deed = DEEDS[i];
                    return true;
                }
                furthest = Math.max(furthest, reached);
            }
            reached = furthest;
            return false;
        }

        private boolean hasForm(String form) {
            reached = start;
            argumentsRead = 0;
            for (int i = 0; i < form.length(); i++) {
                int before = reached;
                char part = form.charAt(i);
                if (part == '#') {
                    readNumber(1);
                } else if (part == '%') {
                    readNumber(2);
                } else if (signAt(reached) == part) {
                    reached++;
                }
                if (reached == before) {
                    return false;
                }
            }
            return true;
        }

        private void readNumber(int mostDigits) {
            int number = 0;
            for (int i = 0; i < mostDigits && isDigit(signAt(reached)); i++) {
                number = number * 10 + signAt(reached) - '0';
                reached++;
            }
            if (argumentsRead < MOST_ARGUMENTS) {
                arguments[argumentsRead] = number;
                argumentsRead++;
            }
        }

        private int signAt(int index) {
            return index >= 0 && index < length ? text[index] : END;
        }

        private static boolean isDigit(int sign) {
            return sign >= '0' && sign <= '9';
        }
    }
}
