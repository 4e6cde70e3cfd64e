/** The sentences of the promises 24 to 30. */
final class RebuildingBounds extends Bounds {
    /** The secret 1 with the value 42 and eight holders, of whom those from a first one on are spoiled. */
    private static FeatherShares spoiledFrom(int firstBird, int threshold, int... added) {
        FeatherShares x = Play.held(threshold, 8);
        for (int i = 0; i < added.length; i++) {
            x.spoil(firstBird + i, 1, added[i]);
        }
        return x;
    }

    private static void dueOfFirstAndLastSecret(String call, Object first, Object last) {
        due(first, Play.crowded(), call, 1);
        due(last, Play.crowded(), call, 7);
    }

    /** Refused for one holder fewer than each threshold and for none, but not for just as many. */
    private static void inVainForTooFewHolders(String call, Object want) {
        for (int threshold = 1; threshold <= 4; threshold++) {
            int need = threshold;
            due(want, Play.held(need, need), call, 1);
            inVain(() -> Play.held(need, need - 1), STATE, call, 1);
            inVain(() -> Play.held(need, 0), STATE, call, 1);
        }
        inVain(Play::busy, STATE, call, 3);
    }

    /** The values from 0 to 96 come back from the first and from the last holders. */
    private static void dueValuesFrom0To96(String call) {
        for (int value = 0; value <= 96; value++) {
            FeatherShares x = Play.withBirds(0, 0, 0, 0, 0, 0, 0, 0);
            for (int threshold = 1; threshold <= 4; threshold++) {
                x.split(value, threshold, 96 - value);
                due(value, x, call, threshold);
                for (int bird = 0; bird < 8 - threshold; bird++) {
                    x.lose(bird, threshold);
                }
                due(value, x, call, threshold);
            }
        }
    }

    private static void dueOfLeadingHolders(String call) {
        FeatherShares x = Play.busy();
        // The fraction of the place 4 is (0 - 1)(0 - 3) / ((4 - 1)(4 - 3)) = 1, and its share is 10 too high.
        due(52, x, call, 1);
        x.spoil(4, 1, 50);
        due(52, x, call, 1);
        x.lose(3, 1);
        x.spoil(4, 1, 47);
        due(42, x, call, 1);
    }

    /** The line through the places 1 and 2 with a and b has the value 2 a - b at the place 0. */
    private static void dueOfTwoShares(String call) {
        int[][] lines = {{0, 0, 0}, {96, 0, 95}, {0, 96, 1}, {96, 96, 96}, {48, 96, 0}, {49, 0, 1}, {0, 1, 96}};
        for (int[] line : lines) {
            FeatherShares x = Play.withBirds(0, 0);
            x.split(0, 2, 84);
            for (int bird = 0; bird < 2; bird++) {
                if (line[bird] != 0) {
                    x.spoil(bird, 1, line[bird]);
                }
            }
            due(line[2], x, call, 1);
        }
    }

    @Sentence(of = 24, words = "Returns the rebuilt value of a secret")
    static void rebuildTakesTheLeadingHolders() {
        dueOfLeadingHolders("rebuild");
    }

    @Sentence(of = 24,
            words = "computed as a sum of the shares multiplied by fractions of places (the formula of Lagrange)")
    static void rebuildReducesEachSum() {
        dueOfTwoShares("rebuild");
    }

    @Sentence(of = 24, words = "secret: the number of the secret")
    static void rebuildTakesTheFirstAndTheLastSecret() {
        dueOfFirstAndLastSecret("rebuild", 52, 9);
    }

    @Sentence(of = 24, words = "Returns the value, 0 to 96.")
    static void rebuildGoesFrom0To96() {
        dueValuesFrom0To96("rebuild");
    }

    @Sentence(of = 24, words = "Throws NoSuchElementException if there is no such secret")
    static void rebuildRefusesNoSecret() {
        inVainForNoSecret("rebuild", TESTED);
    }

    @Sentence(of = 24, words = "Throws IllegalStateException if there are fewer holders than the threshold")
    static void rebuildRefusesFewerHolders() {
        inVainForTooFewHolders("rebuild", 42);
    }

    @Sentence(of = 25, words = "Returns the same value")
    static void rebuildByEliminationTakesTheLeadingHolders() {
        dueOfLeadingHolders("rebuildByElimination");
    }

    @Sentence(of = 25, words = "computed by solving the equations for the coefficients by elimination.")
    static void rebuildByEliminationReducesEachSum() {
        dueOfTwoShares("rebuildByElimination");
    }

    @Sentence(of = 25, words = "secret: the number of the secret")
    static void rebuildByEliminationTakesTheFirstAndTheLastSecret() {
        dueOfFirstAndLastSecret("rebuildByElimination", 52, 9);
    }

    @Sentence(of = 25, words = "Returns the value, 0 to 96.")
    static void rebuildByEliminationGoesFrom0To96() {
        dueValuesFrom0To96("rebuildByElimination");
    }

    @Sentence(of = 25, words = "Throws NoSuchElementException if there is no such secret")
    static void rebuildByEliminationRefusesNoSecret() {
        inVainForNoSecret("rebuildByElimination", TESTED);
    }

    @Sentence(of = 25, words = "Throws IllegalStateException if there are fewer holders than the threshold")
    static void rebuildByEliminationRefusesFewerHolders() {
        inVainForTooFewHolders("rebuildByElimination", 42);
    }

    @Sentence(of = 26, words = "Returns the number of held shares that do not fit the leading holders.")
    static void lostSharesAreNotUnfit() {
        FeatherShares x = spoiledFrom(4, 2, 1, 2, 3);
        due(3, x, "unfitShares", 1);
        x.lose(5, 1);
        due(2, x, "unfitShares", 1);
        x.lose(7, 1);
        due(2, x, "unfitShares", 1);
    }

    @Sentence(of = 26, words = "secret: the number of the secret")
    static void unfitSharesTakesTheFirstAndTheLastSecret() {
        dueOfFirstAndLastSecret("unfitShares", 1, 0);
    }

    @Sentence(of = 26, words = "Returns the number of shares.")
    static void unfitSharesGoesFrom0ToAllButTheLeadingOnes() {
        due(7, spoiledFrom(0, 1, 4, 9, 3, 6, 8, 2), "unfitShares", 1);
        due(6, spoiledFrom(0, 2, 3, 2, 5, 2, 8), "unfitShares", 1);
        due(5, spoiledFrom(0, 3, 7, 7, 1, 5), "unfitShares", 1);
        due(4, spoiledFrom(0, 4, 5, 6, 9), "unfitShares", 1);
        due(1, spoiledFrom(7, 4, 96), "unfitShares", 1);
        due(0, spoiledFrom(7, 4), "unfitShares", 1);
    }

    @Sentence(of = 26, words = "Throws NoSuchElementException if there is no such secret")
    static void unfitSharesRefusesNoSecret() {
        inVainForNoSecret("unfitShares", TESTED);
    }

    @Sentence(of = 26, words = "Throws IllegalStateException if there are fewer holders than the threshold")
    static void unfitSharesRefusesFewerHolders() {
        inVainForTooFewHolders("unfitShares", 0);
    }

    @Sentence(of = 27,
            words = "Returns the least number of held shares that do not fit a choice of holders, over all choices")
    static void theFirstAndTheLastChoiceOfHoldersCount() {
        // Only choices among the last holders, one more of them than the threshold, reach the least number.
        due(6, spoiledFrom(0, 1, 4, 9, 3, 6, 8, 2), "leastUnfitShares", 1);
        due(5, spoiledFrom(0, 2, 3, 2, 5, 2, 8), "leastUnfitShares", 1);
        due(4, spoiledFrom(0, 3, 7, 7, 1, 5), "leastUnfitShares", 1);
        due(3, spoiledFrom(0, 4, 5, 6, 9), "leastUnfitShares", 1);
        // Only choices among the first ones.
        due(6, spoiledFrom(2, 1, 4, 9, 3, 6, 8, 2), "leastUnfitShares", 1);
        due(5, spoiledFrom(3, 2, 4, 9, 3, 6, 8), "leastUnfitShares", 1);
        due(4, spoiledFrom(4, 3, 3, 2, 5, 2), "leastUnfitShares", 1);
        due(3, spoiledFrom(5, 4, 7, 7, 1), "leastUnfitShares", 1);
    }

    @Sentence(of = 27, words = "over all choices of as many holders as the threshold")
    static void asManyHoldersAsTheThresholdFitThemselves() {
        for (int threshold = 1; threshold <= 4; threshold++) {
            FeatherShares x = Play.held(threshold, threshold + 1);
            x.spoil(0, 1, 50);
            due(1, x, "leastUnfitShares", 1);
            x.lose(threshold, 1);
            due(0, x, "leastUnfitShares", 1);
        }
    }

    @Sentence(of = 27, words = "secret: the number of the secret")
    static void leastUnfitSharesTakesTheFirstAndTheLastSecret() {
        dueOfFirstAndLastSecret("leastUnfitShares", 1, 0);
    }

    @Sentence(of = 27, words = "Returns the number of shares.")
    static void leastUnfitSharesGoesFrom0ToAllButTheThreshold() {
        due(7, spoiledFrom(0, 1, 1, 2, 3, 4, 5, 6, 7), "leastUnfitShares", 1);
        due(0, spoiledFrom(0, 1, 9, 9, 9, 9, 9, 9, 9, 9), "leastUnfitShares", 1);
        due(1, spoiledFrom(0, 1, 96), "leastUnfitShares", 1);
        due(1, spoiledFrom(7, 4, 1), "leastUnfitShares", 1);
        due(0, spoiledFrom(7, 4), "leastUnfitShares", 1);
    }

    @Sentence(of = 27, words = "Throws NoSuchElementException if there is no such secret")
    static void leastUnfitSharesRefusesNoSecret() {
        inVainForNoSecret("leastUnfitShares", TESTED);
    }

    @Sentence(of = 27, words = "Throws IllegalStateException if there are fewer holders than the threshold")
    static void leastUnfitSharesRefusesFewerHolders() {
        inVainForTooFewHolders("leastUnfitShares", 0);
    }

    /** The numbers of values that are due for 0, 1, 2 .. known shares, up to all; one more is refused. */
    private static void dueForKnown(FeatherShares x, String call, int... values) {
        for (int known = 0; known < values.length; known++) {
            due(values[known], x, call, 1, known);
        }
        due(ARGUMENT, x, call, 1, values.length);
    }

    private static void dueForEachThreshold(String call) {
        dueForKnown(Play.held(1, 8), call, 97, 1, 1, 1, 1, 1, 1, 1, 1);
        dueForKnown(Play.held(2, 8), call, 97, 97, 1, 1, 1, 1, 1, 1, 1);
        dueForKnown(Play.held(3, 8), call, 97, 97, 97, 1, 1, 1, 1, 1, 1);
        dueForKnown(Play.held(4, 8), call, 97, 97, 97, 97, 1, 1, 1, 1, 1);
        dueForKnown(Play.held(4, 4), call, 97, 97, 97, 97, 1);
        dueForKnown(Play.held(4, 3), call, 97, 97, 97, 97);
        dueForKnown(Play.held(1, 0), call, 97);
    }

    private static void dueForSpoiledShares(String call) {
        dueForKnown(spoiledFrom(7, 1, 1), call, 97, 1, 1, 1, 1, 1, 1, 1, 0);
        dueForKnown(spoiledFrom(0, 1, 96), call, 97, 1, 0, 0, 0, 0, 0, 0, 0);
        dueForKnown(spoiledFrom(4, 4, 1), call, 97, 97, 97, 97, 1, 0, 0, 0, 0);
        dueForKnown(spoiledFrom(3, 4, 1), call, 97, 97, 97, 97, 1, 0, 0, 0, 0);
    }

    private static void dueForFirstHoldersLost(String call) {
        FeatherShares x = spoiledFrom(7, 2, 1);
        x.lose(0, 1);
        x.lose(2, 1);
        dueForKnown(x, call, 97, 97, 1, 1, 1, 1, 0);
    }

    private static void inVainForOtherKnown(String call) {
        inVainOutside(0, 4, Play::busy, ARGUMENT, call, 1, TESTED);
        inVainOutside(0, 3, Play::busy, ARGUMENT, call, 3, TESTED);
        inVainOutside(0, 8, () -> Play.held(4, 8), ARGUMENT, call, 1, TESTED);
        inVainOutside(0, 0, () -> Play.held(4, 0), ARGUMENT, call, 1, TESTED);
    }

    @Sentence(of = 28,
            words = "Returns how many values a secret could have for somebody who knows the shares of some holders")
    static void possibleValuesWithoutHolders() {
        due(97, Play.held(1, 0), "possibleValues", 1, 0);
        due(97, Play.held(4, 0), "possibleValues", 1, 0);
    }

    @Sentence(of = 28, words = "It is 97 if fewer shares than the threshold are known; otherwise it is 1")
    static void possibleValuesBelowAndAtTheThreshold() {
        dueForEachThreshold("possibleValues");
    }

    @Sentence(of = 28, words = "otherwise it is 1 if all known shares fit the leading holders, and 0 if not.")
    static void possibleValuesWithASpoiledShare() {
        dueForSpoiledShares("possibleValues");
    }

    @Sentence(of = 28, words = "secret: the number of the secret")
    static void possibleValuesTakesTheFirstAndTheLastSecret() {
        due(0, Play.crowded(), "possibleValues", 1, 4);
        due(1, Play.crowded(), "possibleValues", 7, 4);
    }

    @Sentence(of = 28,
            words = "known: the number of known shares, which are those of the first holders, 0 to the number "
                + "of holders")
    static void possibleValuesOfTheFirstHolders() {
        dueForFirstHoldersLost("possibleValues");
    }

    @Sentence(of = 28, words = "Returns the number of values.")
    static void possibleValuesIs97Or1Or0() {
        due(97, Play.busy(), "possibleValues", 1, 2);
        due(1, Play.busy(), "possibleValues", 1, 3);
        due(0, Play.busy(), "possibleValues", 1, 4);
    }

    @Sentence(of = 28, words = "Throws NoSuchElementException if there is no such secret")
    static void possibleValuesRefusesNoSecret() {
        inVainForNoSecret("possibleValues", TESTED, 0);
    }

    @Sentence(of = 28, words = "Throws IllegalArgumentException if the number of known shares is out of range")
    static void possibleValuesRefusesOtherNumbersOfShares() {
        inVainForOtherKnown("possibleValues");
    }

    @Sentence(of = 29, words = "Returns the same number")
    static void possibleValuesByTryingBelowAndAtTheThreshold() {
        dueForEachThreshold("possibleValuesByTrying");
    }

    @Sentence(of = 29, words = "found by trying all values v: for each of them the polynomial is sought")
    static void possibleValuesByTryingWithASpoiledShare() {
        dueForSpoiledShares("possibleValuesByTrying");
    }

    @Sentence(of = 29, words = "secret: the number of the secret")
    static void possibleValuesByTryingTakesTheFirstAndTheLastSecret() {
        due(0, Play.crowded(), "possibleValuesByTrying", 1, 4);
        due(1, Play.crowded(), "possibleValuesByTrying", 7, 4);
    }

    @Sentence(of = 29,
            words = "known: the number of known shares, which are those of the first holders, 0 to the number "
                + "of holders")
    static void possibleValuesByTryingOfTheFirstHolders() {
        dueForFirstHoldersLost("possibleValuesByTrying");
    }

    /** The first and the last value that is tried must count too. */
    @Sentence(of = 29, words = "Returns the number of values.")
    static void possibleValuesByTryingTries0And96() {
        for (int value = 0; value <= 96; value++) {
            FeatherShares x = Play.withBirds(0, 0);
            x.split(value, 2, 7);
            due(1, x, "possibleValuesByTrying", 1, 2);
            due(97, x, "possibleValuesByTrying", 1, 1);
        }
    }

    @Sentence(of = 29, words = "Throws NoSuchElementException if there is no such secret")
    static void possibleValuesByTryingRefusesNoSecret() {
        inVainForNoSecret("possibleValuesByTrying", TESTED, 0);
    }

    @Sentence(of = 29, words = "Throws IllegalArgumentException if the number of known shares is out of range")
    static void possibleValuesByTryingRefusesOtherNumbersOfShares() {
        inVainForOtherKnown("possibleValuesByTrying");
    }

    @Sentence(of = 30,
            words = "Returns the inverse of a number: the number from 1 to 96 whose product with it is 1 modulo 97.")
    static void aNumberTimesItsInverseIs1() {
        FeatherShares x = new FeatherShares();
        for (int number = 1; number <= 96; number++) {
            int inverse = x.inverse(number);
            check.equal(number + " times " + inverse, 1, number * inverse % 97);
            check.equal("1 to 96: " + inverse, true, inverse >= 1 && inverse <= 96);
        }
    }

    @Sentence(of = 30, words = "number: the number, 1 to 96")
    static void inverseTakes1And96() {
        due(1, new FeatherShares(), "inverse", 1);
        due(96, new FeatherShares(), "inverse", 96);
    }

    @Sentence(of = 30, words = "Returns the inverse.")
    static void theInverseOfTheInverseIsTheNumber() {
        due(49, new FeatherShares(), "inverse", 2);
        due(2, new FeatherShares(), "inverse", 49);
        due(48, new FeatherShares(), "inverse", 95);
        due(95, new FeatherShares(), "inverse", 48);
    }

    @Sentence(of = 30, words = "Throws IllegalArgumentException if the number is out of range")
    static void inverseRefusesOtherNumbers() {
        inVainOutside(1, 96, Play::busy, ARGUMENT, "inverse", TESTED);
        inVain(Play::busy, ARGUMENT, "inverse", -1);
        inVain(Play::busy, ARGUMENT, "inverse", -96);
        inVain(Play::busy, ARGUMENT, "inverse", 98);
        inVain(Play::busy, ARGUMENT, "inverse", 194);
    }
}
