import java.util.NoSuchElementException;

/** Promises 24 to 30. */
public final class RebuildingTest {
    private static final Class<IllegalArgumentException> ARGUMENT = IllegalArgumentException.class;
    private static final Class<IllegalStateException> STATE = IllegalStateException.class;
    private static final Class<NoSuchElementException> ELEMENT = NoSuchElementException.class;

    private static final Check check = new Check("RebuildingTest");

    public static void main(String[] args) {
        everyValueComesBack();
        theLeadingHoldersDecide();
        rebuildingRefuses();
        unfitShares();
        leastUnfitShares();
        possibleValues();
        possibleValuesRefuse();
        inverse();
        check.end();
    }

    private static void everyValueComesBack() {
        for (int value = 0; value < 97; value++) {
            int wanted = value;
            FeatherShares x = Play.withBirds(0, 1, 2, 3, 0, 1, 2, 3);
            for (int need = 1; need <= 4; need++) {
                int secret = x.split(value, need, (value * 5 + need) % 97);
                x.lose(value % 3, secret);
                check.due("P24 rebuild", wanted, () -> x.rebuild(secret));
                check.due("P25 rebuildByElimination", wanted, () -> x.rebuildByElimination(secret));
            }
        }
    }

    private static void theLeadingHoldersDecide() {
        FeatherShares x = Play.withBirds(0, 0, 0, 0, 0);
        x.split(42, 3, 5);
        x.spoil(4, 1, 50);
        checkRebuilt(x, 42);
        // The share of bird 1 counts with the fraction (0 - 1)(0 - 3) / ((2 - 1)(2 - 3)) = -3.
        x.spoil(1, 1, 10);
        checkRebuilt(x, 12);
        x.lose(1, 1);
        checkRebuilt(x, 42);
        // Behind bird 1 lost, bird 3 leads: its fraction is (1 * 3) / ((4 - 1)(4 - 3)) = 1.
        x.spoil(3, 1, 20);
        checkRebuilt(x, 62);
    }

    private static void checkRebuilt(FeatherShares x, int value) {
        check.due("P24 rebuild", value, () -> x.rebuild(1));
        check.due("P25 rebuildByElimination", value, () -> x.rebuildByElimination(1));
    }

    private static void rebuildingRefuses() {
        FeatherShares x = Play.withBirds(0, 0);
        x.split(42, 2, 5);
        check.refused("P24 no secret", ELEMENT, () -> x.rebuild(2));
        check.refused("P25 no secret", ELEMENT, () -> x.rebuildByElimination(2));
        check.refused("P26 no secret", ELEMENT, () -> x.unfitShares(0));
        check.refused("P27 no secret", ELEMENT, () -> x.leastUnfitShares(-1));
        x.lose(0, 1);
        check.refused("P24 fewer holders", STATE, () -> x.rebuild(1));
        check.refused("P25 fewer holders", STATE, () -> x.rebuildByElimination(1));
        check.refused("P26 fewer holders", STATE, () -> x.unfitShares(1));
        check.refused("P27 fewer holders", STATE, () -> x.leastUnfitShares(1));
    }

    private static void unfitShares() {
        FeatherShares x = Play.withBirds(0, 0, 0, 0, 0, 0);
        x.split(42, 2, 5);
        check.due("P26 none", 0, () -> x.unfitShares(1));
        x.spoil(5, 1, 1);
        x.spoil(3, 1, 1);
        check.due("P26 two behind", 2, () -> x.unfitShares(1));
        x.spoil(0, 1, 1);
        // The line through a leading share that is 1 too high is 1 - (p - 1) off at the place p: no other share fits.
        check.due("P26 a leading one", 4, () -> x.unfitShares(1));
        x.lose(0, 1);
        check.due("P26 the leading one lost", 2, () -> x.unfitShares(1));
        x.lose(5, 1);
        x.lose(4, 1);
        x.lose(3, 1);
        check.due("P26 as many holders as the threshold", 0, () -> x.unfitShares(1));
    }

    private static void leastUnfitShares() {
        FeatherShares x = Play.withBirds(0, 0, 0, 0, 0, 0, 0, 0);
        x.split(42, 3, 5);
        check.due("P27 none", 0, () -> x.leastUnfitShares(1));
        x.spoil(0, 1, 1);
        check.due("P27 one, leading", 1, () -> x.leastUnfitShares(1));
        check.due("P26 one, leading", 5, () -> x.unfitShares(1));
        x.spoil(7, 1, 3);
        check.due("P27 two", 2, () -> x.leastUnfitShares(1));
        x.lose(0, 1);
        check.due("P27 one is lost", 1, () -> x.leastUnfitShares(1));
        FeatherShares y = Play.withBirds(0, 0, 0, 0);
        y.split(3, 1, 0);
        y.spoil(0, 1, 1);
        y.spoil(1, 1, 1);
        y.spoil(2, 1, 1);
        check.due("P27 most shares agree on a wrong value", 1, () -> y.leastUnfitShares(1));
        y.spoil(0, 1, 1);
        y.spoil(1, 1, 2);
        check.due("P27 all shares differ", 3, () -> y.leastUnfitShares(1));
    }

    private static void possibleValues() {
        FeatherShares x = Play.withBirds(0, 0, 0, 0, 0, 0);
        x.split(42, 3, 5);
        checkPossible(x, 97, 97, 97, 1, 1, 1, 1);
        x.spoil(4, 1, 1);
        checkPossible(x, 97, 97, 97, 1, 1, 0, 0);
        x.lose(1, 1);
        checkPossible(x, 97, 97, 97, 1, 0, 0);
        x.lose(4, 1);
        checkPossible(x, 97, 97, 97, 1, 1);
        x.lose(0, 1);
        x.lose(2, 1);
        checkPossible(x, 97, 97, 97);
        x.lose(3, 1);
        x.lose(5, 1);
        checkPossible(x, 97);
    }

    /** The numbers of values that are due for 0, 1, 2 .. known shares of the secret 1. */
    private static void checkPossible(FeatherShares x, int... values) {
        for (int i = 0; i < values.length; i++) {
            int known = i;
            check.due("P28 possibleValues(1, " + i + ")", values[i], () -> x.possibleValues(1, known));
            check.due("P29 possibleValuesByTrying(1, " + i + ")", values[i], () -> x.possibleValuesByTrying(1, known));
        }
        check.refused("P28 too many known", ARGUMENT, () -> x.possibleValues(1, values.length));
        check.refused("P29 too many known", ARGUMENT, () -> x.possibleValuesByTrying(1, values.length));
    }

    private static void possibleValuesRefuse() {
        FeatherShares x = Play.withBirds(0);
        x.split(42, 1, 5);
        check.refused("P28 known -1", ARGUMENT, () -> x.possibleValues(1, -1));
        check.refused("P29 known -1", ARGUMENT, () -> x.possibleValuesByTrying(1, -1));
        check.refused("P28 no secret", ELEMENT, () -> x.possibleValues(2, -1));
        check.refused("P29 no secret", ELEMENT, () -> x.possibleValuesByTrying(2, -1));
        check.refused("P28 known MAX", ARGUMENT, () -> x.possibleValues(1, Integer.MAX_VALUE));
        check.refused("P29 known MAX", ARGUMENT, () -> x.possibleValuesByTrying(1, Integer.MAX_VALUE));
    }

    private static void inverse() {
        FeatherShares x = new FeatherShares();
        for (int number = 1; number <= 96; number++) {
            int asked = number;
            check.due("P30 " + number + " times its inverse", 1, () -> asked * x.inverse(asked) % 97);
            check.due("P30 inverse is below 97", true, () -> x.inverse(asked) > 0 && x.inverse(asked) < 97);
        }
        check.refused("P30 inverse(0)", ARGUMENT, () -> x.inverse(0));
        check.refused("P30 inverse(97)", ARGUMENT, () -> x.inverse(97));
        check.refused("P30 inverse(-1)", ARGUMENT, () -> x.inverse(-1));
        check.refused("P30 inverse(98)", ARGUMENT, () -> x.inverse(98));
    }
}
