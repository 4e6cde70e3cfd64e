import java.util.List;

/** The sentences of the sections "What it is" and "Terms". */
final class TermBounds extends Bounds {
    private static FeatherShares eightBirds() {
        return Play.withBirds(0, 1, 2, 3, 0, 1, 2, 3);
    }

    private static void dueShares(FeatherShares x, int secret, int... shares) {
        for (int bird = 0; bird < shares.length; bird++) {
            due(shares[bird], x, "share", bird, secret);
        }
    }

    /** One bird with the secret 1 of the threshold 1 and this share. */
    private static FeatherShares withShare(int share) {
        FeatherShares x = Play.withBirds(0);
        x.split(share, 1, 0);
        return x;
    }

    private static void dueError(int position, String text) {
        FeatherShares x = Play.busy();
        due(2, x, "run");
        dueOfText(ARGUMENT, x, text);
        check.equal("errorPosition of \"" + text + "\"", position, x.errorPosition());
        due(1, x, "append", 'b');
    }

    /** The text does to the state what the call does. */
    private static void sameAsCall(String text, String call, int... arguments) {
        FeatherShares called = Play.busy();
        FeatherShares run = Play.busy();
        due(2, called, "run");
        due(2, run, "run");
        Calls.answer(called, call, arguments);
        dueOfText(1, run, text);
        check.equal("the state after \"" + text + "\"", Look.state(called), Look.state(run));
    }

    @Sentence(of = 0, words = "numbers are split into shares by polynomials modulo 97")
    static void theWholeStory() {
        FeatherShares x = Play.withBirds(0, 1, 2, 3);
        due(1, x, "split", 42, 3, 5);
        due(3, x, "lose", 0, 1);
        due(92, x, "spoil", 1, 1, 1);
        // The fractions of the places 2, 3 and 4 at the place 0 are 6, -8 and 3.
        due(48, x, "rebuild", 1);
        due(91, x, "spoil", 1, 1, 96);
        due(89, x, "issue", 0, 1);
        due(4, x, "refresh", 1, 7);
        due(42, x, "rebuild", 1);
    }

    @Sentence(of = 0, words = "An object is used for at most 512 calls after it has been made")
    static void the512thCallIsStillRight() {
        FeatherShares x = new FeatherShares();
        due(0, x, "addBird", 0);
        for (int number = 1; number <= 255; number++) {
            due(number, x, "split", 96, 1, 96);
            due(1, x, "forget", number);
        }
        due(256, x, "split", 96, 1, 96);
        FeatherShares y = withShare(0);
        for (int calls = 2; calls < 512; calls++) {
            y.spoil(0, 1, 96);
        }
        check.equal("the share after 510 times 96", Math.floorMod(-510, 97), y.share(0, 1));
    }

    @Sentence(of = 0, words = "All values and shares are numbers from 0 to 96")
    static void sumsPast96BeginAgainAt0() {
        due(96, withShare(95), "spoil", 0, 1, 1);
        due(0, withShare(96), "spoil", 0, 1, 1);
        due(1, withShare(96), "spoil", 0, 1, 2);
        due(96, withShare(0), "spoil", 0, 1, 96);
        due(0, withShare(1), "spoil", 0, 1, 96);
        due(95, withShare(96), "spoil", 0, 1, 96);
    }

    @Sentence(of = 0, words = "and all their arithmetic is modulo 97, which is a prime.")
    static void coefficientsAndProductsPast96BeginAgainAt0() {
        FeatherShares x = eightBirds();
        // The coefficients for the power 1: 83 + 13 = 96, then 97 and 98, that is 0 and 1.
        x.split(0, 2, 83);
        x.split(0, 2, 84);
        x.split(0, 2, 85);
        dueShares(x, 1, 96, 95, 94, 93, 92, 91, 90, 89);
        dueShares(x, 2, 0, 0, 0, 0, 0, 0, 0, 0);
        dueShares(x, 3, 1, 2, 3, 4, 5, 6, 7, 8);
        // The sums at the place 1: 1 + 75 + 20 = 96, then 97 and 98.
        x.split(1, 2, 75);
        x.split(1, 2, 76);
        x.split(1, 2, 77);
        due(96, x, "share", 0, 4);
        due(0, x, "share", 0, 5);
        due(1, x, "share", 0, 6);
    }

    @Sentence(of = 0, words = "and all their arithmetic is modulo 97")
    static void refreshedSharesPast96BeginAgainAt0() {
        for (int share = 85; share <= 89; share++) {
            FeatherShares x = Play.withBirds(0, 0);
            x.split(0, 2, 84);
            x.spoil(0, 1, share);
            // 5 + 5 is added at the place 1.
            due(2, x, "refresh", 1, 5);
            due((share + 10) % 97, x, "share", 0, 1);
        }
    }

    @Sentence(of = 0, words = "So each number but 0 has an inverse.")
    static void noNumberBut0LacksAnInverse() {
        FeatherShares x = new FeatherShares();
        boolean[] found = new boolean[97];
        for (int number = 1; number <= 96; number++) {
            found[x.inverse(number)] = true;
        }
        for (int number = 0; number <= 96; number++) {
            check.equal(number + " is an inverse", number != 0, found[number]);
        }
        due(ARGUMENT, x, "inverse", 0);
        due(ARGUMENT, x, "inverse", 97);
    }

    @Sentence(of = 0, words = "There are at most 8 birds with the indices 0 to b - 1.")
    static void theIndicesGoFrom0ToBMinus1() {
        FeatherShares x = new FeatherShares();
        for (int birds = 0; birds <= 8; birds++) {
            due(INDEX, x, "nestOf", birds);
            due(INDEX, x, "nestOf", -1);
            if (birds > 0) {
                due(3, x, "nestOf", birds - 1);
                due(3, x, "nestOf", 0);
            }
            due(birds < 8 ? birds : STATE, x, "addBird", 3);
        }
        due(8, x, "birdCount");
    }

    @Sentence(of = 0, words = "A bird is in one of the nests 0 to 3.")
    static void eachBirdIsInOneNestOfFour() {
        FeatherShares x = Play.crowded();
        int birds = 0;
        for (int nest = 0; nest < 4; nest++) {
            birds += x.birdsIn(nest);
        }
        check.equal("the birds of all nests", 8, birds);
        due(ARGUMENT, x, "birdsIn", -1);
        due(ARGUMENT, x, "birdsIn", 4);
    }

    @Sentence(of = 0, words = "The place of a bird is its index plus 1.")
    static void thePlacesGoFrom1To8() {
        FeatherShares x = eightBirds();
        x.split(0, 2, 85);
        dueShares(x, 1, 1, 2, 3, 4, 5, 6, 7, 8);
        x.lose(7, 1);
        due(8, x, "issue", 7, 1);
        x.lose(0, 1);
        due(1, x, "issue", 0, 1);
    }

    @Sentence(of = 0, words = "There are at most 6 secrets.")
    static void sixSecretsButNotSeven() {
        FeatherShares x = Play.withBirds(0);
        for (int number = 1; number <= 6; number++) {
            due(number, x, "split", 0, 1, 0);
        }
        due(STATE, x, "split", 0, 1, 0);
        due(6, x, "secretCount");
        due(6, x, "sharesOf", 0);
        due(1, x, "forget", 6);
        due(7, x, "split", 0, 1, 0);
        due(STATE, x, "split", 0, 1, 0);
    }

    @Sentence(of = 0,
            words = "Each secret that is added gets a number, beginning with 1 and increasing by 1 for each "
                + "further secret")
    static void refusedSplitsTakeNoNumber() {
        FeatherShares x = new FeatherShares();
        due(STATE, x, "split", 0, 1, 0);
        x.addBird(0);
        due(ARGUMENT, x, "split", 97, 1, 0);
        due(STATE, x, "split", 0, 2, 0);
        dueOfText(UNSUPPORTED, x, "split 0 1 0;bird 4");
        due(1, x, "split", 0, 1, 0);
        due(2, x, "split", 0, 1, 0);
        dueOfText(2, x, "split 0 1 0;split 0 1 0");
        due(5, x, "split", 0, 1, 0);
    }

    @Sentence(of = 0, words = "numbers are not used twice.")
    static void forgottenNumbersAreNotUsedAgain() {
        FeatherShares x = Play.withBirds(0);
        x.split(0, 1, 0);
        x.split(0, 1, 0);
        x.forget(2);
        due(3, x, "split", 0, 1, 0);
        x.forget(1);
        x.forget(3);
        due(0, x, "secretCount");
        due(4, x, "split", 0, 1, 0);
        due(false, x, "exists", 1);
    }

    @Sentence(of = 0, words = "A secret has a threshold from 1 to 4.")
    static void noOtherThresholds() {
        FeatherShares x = eightBirds();
        due(ARGUMENT, x, "split", 0, 0, 0);
        due(1, x, "split", 0, 1, 0);
        due(2, x, "split", 0, 4, 0);
        due(ARGUMENT, x, "split", 0, 5, 0);
        due(1, x, "threshold", 1);
        due(4, x, "threshold", 2);
    }

    @Sentence(of = 0, words = "a polynomial is made whose coefficients are: the value for the power 0")
    static void aThresholdOf1LeavesTheValueAlone() {
        FeatherShares x = eightBirds();
        x.split(96, 1, 96);
        x.split(0, 1, 96);
        dueShares(x, 1, 96, 96, 96, 96, 96, 96, 96, 96);
        dueShares(x, 2, 0, 0, 0, 0, 0, 0, 0, 0);
    }

    @Sentence(of = 0,
            words = "for each power i from 1 to the threshold minus 1, the seed multiplied by i, plus 7 times "
                + "the value, plus 13.")
    static void theCoefficientsOfTheSmallestAndTheLargestNumbers() {
        FeatherShares x = eightBirds();
        // 13 for each power.
        x.split(0, 2, 0);
        x.split(0, 3, 0);
        x.split(0, 4, 0);
        dueShares(x, 1, 13, 26, 39, 52, 65, 78, 91, 7);
        dueShares(x, 2, 26, 78, 59, 66, 2, 61, 49, 63);
        dueShares(x, 3, 39, 85, 22, 25, 75, 56, 46, 26);
        // 7 * 96 + 13 = 6, so 96, then 96 + 6 = 5, 192 + 6 = 4 and 288 + 6 = 3.
        x.split(96, 2, 96);
        x.split(96, 3, 96);
        x.split(96, 4, 96);
        dueShares(x, 4, 4, 9, 14, 19, 24, 29, 34, 39);
        dueShares(x, 5, 8, 25, 50, 83, 27, 76, 36, 4);
        dueShares(x, 6, 11, 49, 34, 81, 14, 45, 95, 85);
    }

    @Sentence(of = 0, words = "The share of a bird is the value of this polynomial at the place of the bird.")
    static void theSharesOfTheFirstAndTheLastBird() {
        FeatherShares x = eightBirds();
        x.split(42, 3, 5);
        due(89, x, "share", 0, 1);
        due(31, x, "share", 7, 1);
        // A bird's place does not depend on its nest.
        x.move(0, 3);
        x.move(7, 0);
        x.split(42, 3, 5);
        due(89, x, "share", 0, 2);
        due(31, x, "share", 7, 2);
    }

    @Sentence(of = 0, words = "Each bird that exists then holds its share.")
    static void oneToEightBirdsHoldShares() {
        for (int birds = 1; birds <= 8; birds++) {
            FeatherShares x = new FeatherShares();
            for (int bird = 0; bird < birds; bird++) {
                x.addBird(bird % 4);
            }
            x.split(7, 1, 0);
            due(birds, x, "holders", 1);
            if (birds < 8) {
                x.addBird(0);
                due(birds, x, "holders", 1);
                due(false, x, "holds", birds, 1);
            }
            due(true, x, "holds", birds - 1, 1);
        }
    }

    @Sentence(of = 0, words = "The polynomial and the value are not stored.")
    static void theSharesAloneTellTheValue() {
        FeatherShares x = Play.withBirds(0, 0, 0);
        x.split(42, 1, 5);
        x.spoil(0, 1, 8);
        due(50, x, "rebuild", 1);
        x.lose(2, 1);
        due(50, x, "issue", 2, 1);
        x.lose(0, 1);
        due(42, x, "rebuild", 1);
        x.lose(1, 1);
        due(50, x, "rebuild", 1);
        x.lose(2, 1);
        due(STATE, x, "rebuild", 1);
        due(UNSUPPORTED, x, "issue", 0, 1);
    }

    @Sentence(of = 0, words = "A bird holds a share of a secret or not.")
    static void aShareOf0IsAShare() {
        FeatherShares x = withShare(0);
        due(true, x, "holds", 0, 1);
        due(0, x, "share", 0, 1);
        due(STATE, x, "issue", 0, 1);
        x.lose(0, 1);
        due(false, x, "holds", 0, 1);
        due(STATE, x, "share", 0, 1);
    }

    @Sentence(of = 0, words = "When a share is lost, the bird does not hold it any more.")
    static void aLostShareIsGoneForEachQuery() {
        FeatherShares x = withShare(0);
        x.lose(0, 1);
        due(0, x, "holders", 1);
        due(0, x, "sharesOf", 0);
        due(0, x, "shareTotal");
        due(-1, x, "spareShares", 1);
        due(false, x, "canNestRebuild", 0, 1);
        due(STATE, x, "lose", 0, 1);
        due(STATE, x, "spoil", 0, 1, 1);
        due(3, x, "writeSecret", 1);
        dueLine("1/1", x);
    }

    @Sentence(of = 0, words = "When a share is spoiled, a number is added to it.")
    static void spoiledSharesAddUp() {
        FeatherShares x = withShare(5);
        due(6, x, "spoil", 0, 1, 1);
        due(8, x, "spoil", 0, 1, 2);
        due(7, x, "spoil", 0, 1, 96);
        due(7, x, "rebuild", 1);
        due(true, x, "holds", 0, 1);
    }

    @Sentence(of = 0,
            words = "The holders of a secret are the birds that hold a share of it, ordered by their indices.")
    static void aBirdWithAnIssuedShareStandsAtItsIndex() {
        FeatherShares x = Play.withBirds(0, 0, 0);
        x.split(5, 1, 0);
        x.lose(0, 1);
        x.spoil(1, 1, 1);
        due(6, x, "issue", 0, 1);
        x.spoil(0, 1, 1);
        x.writeSecret(1);
        dueLine("1/1 0:7 1:6 2:5", x);
        due(7, x, "rebuild", 1);
    }

    @Sentence(of = 0, words = "The leading holders are the first ones, as many as the threshold")
    static void theHolderBehindTheLeadingOnesDoesNotCount() {
        for (int threshold = 1; threshold <= 4; threshold++) {
            FeatherShares x = Play.held(threshold, 8);
            x.spoil(threshold, 1, 1);
            due(42, x, "rebuild", 1);
            due(1, x, "unfitShares", 1);
            x.spoil(threshold, 1, 96);
            x.spoil(threshold - 1, 1, 1);
            check.equal("the value changes with the last leading share", false, x.rebuild(1) == 42);
        }
    }

    @Sentence(of = 0, words = "there are leading holders only if there are at least as many holders as the threshold.")
    static void withOneHolderTooFewNothingIsRebuilt() {
        for (int threshold = 1; threshold <= 4; threshold++) {
            FeatherShares x = Play.held(threshold, threshold);
            due(42, x, "rebuild", 1);
            due(42, x, "rebuildByElimination", 1);
            due(0, x, "unfitShares", 1);
            due(0, x, "leastUnfitShares", 1);
            due(1, x, "possibleValues", 1, threshold);
            x.lose(0, 1);
            due(STATE, x, "rebuild", 1);
            due(STATE, x, "rebuildByElimination", 1);
            due(STATE, x, "unfitShares", 1);
            due(STATE, x, "leastUnfitShares", 1);
            due(UNSUPPORTED, x, "issue", 7, 1);
            due(97, x, "possibleValues", 1, threshold - 1);
        }
    }

    @Sentence(of = 0,
            words = "the polynomial with a degree less than the threshold that has the shares of the leading "
                + "holders as its values at their places")
    static void thePolynomialHasADegreeOf0To3() {
        int[][] shares = {{1, 1, 1, 1, 1, 1, 1, 1}, {1, 2, 3, 4, 5, 6, 7, 8}, {1, 4, 9, 16, 25, 36, 49, 64},
            {1, 8, 27, 64, 28, 22, 52, 27}};
        for (int threshold = 1; threshold <= 4; threshold++) {
            FeatherShares x = eightBirds();
            x.split(0, threshold, 0);
            for (int bird = 0; bird < threshold; bird++) {
                int by = Math.floorMod(shares[threshold - 1][bird] - x.share(bird, 1), 97);
                due(shares[threshold - 1][bird], x, "spoil", bird, 1, by);
            }
            for (int bird = threshold; bird < 8; bird++) {
                x.lose(bird, 1);
                due(shares[threshold - 1][bird], x, "issue", bird, 1);
            }
            due(threshold == 1 ? 1 : 0, x, "rebuild", 1);
        }
    }

    @Sentence(of = 0, words = "The rebuilt value of a secret is the one at the place 0.")
    static void theRebuiltValueIsNotAShare() {
        FeatherShares x = eightBirds();
        x.split(0, 2, 85);
        due(0, x, "rebuild", 1);
        due(0, x, "rebuildByElimination", 1);
        for (int bird = 0; bird < 6; bird++) {
            x.lose(bird, 1);
        }
        due(0, x, "rebuild", 1);
        due(0, x, "rebuildByElimination", 1);
    }

    @Sentence(of = 0,
            words = "A share fits a choice of holders, as many as the threshold, if it is the value at its place")
    static void aShareThatIs1TooHighOrTooLowDoesNotFit() {
        for (int by = 1; by <= 96; by += 95) {
            FeatherShares x = Play.held(4, 5);
            due(0, x, "unfitShares", 1);
            x.spoil(4, 1, by);
            due(1, x, "unfitShares", 1);
            due(1, x, "leastUnfitShares", 1);
            due(0, x, "possibleValues", 1, 5);
            due(0, x, "possibleValuesByTrying", 1, 5);
        }
    }

    @Sentence(of = 0, words = "is added to each share that is held: 0 for the power 0")
    static void refreshLeavesTheValueAndTheLostShares() {
        for (int threshold = 1; threshold <= 4; threshold++) {
            FeatherShares x = Play.held(threshold, 7);
            for (int seed = 0; seed <= 96; seed += 48) {
                x.refresh(1, seed);
                due(42, x, "rebuild", 1);
                due(0, x, "unfitShares", 1);
                due(false, x, "holds", 7, 1);
            }
        }
    }

    @Sentence(of = 0, words = "for each power i from 1 to the threshold minus 1, the seed multiplied by i, plus 5.")
    static void theRefreshingCoefficientsOfTheSmallestAndTheLargestSeed() {
        int[][] bySeed0 = {{0, 0, 0, 0, 0, 0, 0, 0}, {5, 10, 15, 20, 25, 30, 35, 40},
            {10, 30, 60, 3, 53, 16, 86, 69}, {15, 70, 1, 32, 96, 29, 55, 10}};
        int[][] bySeed96 = {{0, 0, 0, 0, 0, 0, 0, 0}, {4, 8, 12, 16, 20, 24, 28, 32},
            {7, 20, 39, 64, 95, 35, 78, 30}, {9, 36, 93, 95, 54, 79, 85, 84}};
        for (int threshold = 1; threshold <= 4; threshold++) {
            dueAdded(threshold, 0, bySeed0[threshold - 1]);
            dueAdded(threshold, 96, bySeed96[threshold - 1]);
        }
    }

    private static void dueAdded(int threshold, int seed, int... added) {
        FeatherShares x = Play.held(threshold, 8);
        int[] before = new int[8];
        for (int bird = 0; bird < 8; bird++) {
            before[bird] = x.share(bird, 1);
        }
        due(threshold == 1 ? 0 : 8, x, "refresh", 1, seed);
        for (int bird = 0; bird < 8; bird++) {
            due((before[bird] + added[bird]) % 97, x, "share", bird, 1);
        }
    }

    @Sentence(of = 0, words = "The text buffer holds at most 60 characters.")
    static void sixtyCharactersButNotSixtyOne() {
        FeatherShares x = new FeatherShares();
        for (int length = 1; length <= 60; length++) {
            due(length, x, "append", ' ');
        }
        due(STATE, x, "append", ' ');
        due(STATE, x, "append", 'b');
    }

    @Sentence(of = 0, words = "A program has this grammar:")
    static void otherSignsAndOtherOrdersAreNoProgram() {
        dueError(0, "BIRD 1");
        dueError(0, " bird 1");
        dueError(0, "\nbird 1");
        dueError(6, "bird 1\n");
        dueError(5, "bird  1");
        dueError(4, "bird\t1");
        dueError(4, "bird1");
        dueError(6, "bird 1 ;bird 1");
        dueError(7, "bird 1; bird 1");
    }

    @Sentence(of = 0, words = "program = command { \";\" command }")
    static void oneCommandOrMoreWithSemicolonsBetween() {
        dueError(0, "");
        dueError(0, ";");
        dueError(0, ";bird 1");
        dueError(7, "bird 1;");
        dueError(7, "bird 1;;bird 1");
        dueError(6, "bird 1,bird 1");
        FeatherShares x = new FeatherShares();
        dueOfText(1, x, "bird 1");
        dueOfText(2, x, "bird 1;bird 1");
    }

    @Sentence(of = 0, words = "command = \"bird \" digit | \"move \" digit \" \" digit")
    static void birdAndMoveTakeSingleDigits() {
        dueError(5, "bird a");
        dueError(5, "bird /");
        dueError(5, "bird :");
        dueError(6, "bird 01");
        dueError(6, "bird 1 1");
        dueError(6, "move 01 1");
        dueError(8, "move 1 01");
        dueError(6, "move 1");
        dueError(8, "move 1 1 1");
        FeatherShares x = Play.crowded();
        due(UNSUPPORTED, x, "run");
        dueOfText(2, x, "move 0 0;move 7 3");
        dueOfText(UNSUPPORTED, x, "move 9 9");
        dueOfText(UNSUPPORTED, x, "bird 9");
    }

    @Sentence(of = 0,
            words = "\"split \" number \" \" digit \" \" number | \"lose \" digit \" \" number | \"spoil \" "
                + "digit \" \" number \" \" number")
    static void splitLoseAndSpoilTakeDigitsAndNumbers() {
        dueError(8, "split 100 1 1");
        dueError(10, "split 10 01 1");
        dueError(13, "split 99 1 100");
        dueError(6, "lose 00 1");
        dueError(9, "lose 0 010");
        dueError(7, "spoil 00 1 1");
        dueError(10, "spoil 0 010 1");
        dueError(13, "spoil 0 01 010");
        dueError(10, "spoil 0 01");
    }

    @Sentence(of = 0, words = "| \"issue \" digit \" \" number | \"refresh \" number \" \" number | \"forget \" number")
    static void issueRefreshAndForgetTakeDigitsAndNumbers() {
        dueError(7, "issue 00 1");
        dueError(10, "issue 0 010");
        dueError(10, "refresh 010 1");
        dueError(13, "refresh 01 010");
        dueError(10, "refresh 01");
        dueError(9, "forget 010");
        dueError(8, "forget 1 1");
    }

    @Sentence(of = 0, words = "number = digit [ digit ]")
    static void numbersOfOneAndTwoDigits() {
        FeatherShares x = Play.withBirds(0, 0);
        dueOfText(4, x, "split 0 1 0;split 00 1 00;split 9 1 9;split 10 1 10");
        dueOfText(1, x, "split 96 1 96");
        due(0, x, "share", 0, 2);
        due(9, x, "share", 0, 3);
        due(10, x, "share", 0, 4);
        due(96, x, "share", 0, 5);
        dueOfText(2, x, "spoil 0 1 1;spoil 1 01 01");
        dueShares(x, 1, 1, 1);
        dueOfText(UNSUPPORTED, x, "split 97 1 0");
        dueOfText(UNSUPPORTED, x, "split 0 1 99");
        dueError(6, "split ");
        dueError(8, "split 096 1 0");
    }

    @Sentence(of = 0, words = "The commands call addBird (nest), move (bird, nest), split (value, threshold, seed)")
    static void birdMoveAndSplitDoWhatTheCallsDo() {
        sameAsCall("bird 3", "addBird", 3);
        sameAsCall("move 3 0", "move", 3, 0);
        sameAsCall("move 0 3", "move", 0, 3);
        sameAsCall("split 96 4 0", "split", 96, 4, 0);
        sameAsCall("split 4 2 95", "split", 4, 2, 95);
    }

    @Sentence(of = 0,
            words = "lose (bird, secret), spoil (bird, secret, added number), issue (bird, secret), refresh "
                + "(secret, seed) and forget (secret).")
    static void theOtherCommandsDoWhatTheCallsDo() {
        sameAsCall("lose 1 3", "lose", 1, 3);
        sameAsCall("lose 3 01", "lose", 3, 1);
        sameAsCall("spoil 1 3 4", "spoil", 1, 3, 4);
        sameAsCall("spoil 3 1 96", "spoil", 3, 1, 96);
        sameAsCall("issue 1 1", "issue", 1, 1);
        sameAsCall("refresh 3 1", "refresh", 3, 1);
        sameAsCall("refresh 1 96", "refresh", 1, 96);
        sameAsCall("forget 3", "forget", 3);
        sameAsCall("forget 04", "forget", 4);
    }

    @Sentence(of = 0,
            words = "the index of the first character that cannot continue any program with the same "
                + "preceding characters")
    static void theFirstWrongCharacter() {
        dueError(0, "x");
        dueError(1, "bx");
        dueError(1, "mird 1");
        dueError(1, "sird 1");
        dueError(2, "sprit");
        dueError(2, "spin");
        dueError(3, "splot");
        dueError(3, "spoof");
        dueError(2, "fog");
        dueError(1, "list");
        dueError(6, "bird 1bird 2");
        dueError(8, "bird 0;mird 0");
        dueError(12, "bird 0;bird ;");
        dueError(0, "9");
    }

    @Sentence(of = 0, words = "or the length of the text if the text is a proper prefix of a program.")
    static void eachProperPrefix() {
        String[] commands = {"bird 1", "move 0 1", "split 01 1 01", "lose 0 01", "spoil 0 01 01", "issue 0 01",
            "refresh 01 01", "forget 01"};
        for (String command : commands) {
            boolean endsInNumber = command.endsWith("01");
            for (int length = 0; length < command.length() - (endsInNumber ? 1 : 0); length++) {
                dueError(length, command.substring(0, length));
                dueError(7 + length, "bird 1;" + command.substring(0, length));
            }
            dueError(command.length() + 1, command + ";");
        }
    }

    @Sentence(of = 0,
            words = "The changing methods are addBird, move, split, lose, spoil, issue, refresh, forget and run.")
    static void eachChangingMethodCanBeUndone() {
        Object[][] changes = {{"addBird", 3}, {"move", 0, 3}, {"split", 1, 1, 1}, {"lose", 0, 1}, {"spoil", 0, 1, 1},
            {"issue", 1, 1}, {"refresh", 1, 1}, {"forget", 1}, {"run"}};
        for (Object[] change : changes) {
            FeatherShares x = Play.busy();
            String before = Look.state(x);
            int[] arguments = new int[change.length - 1];
            for (int i = 0; i < arguments.length; i++) {
                arguments[i] = (Integer) change[i + 1];
            }
            Calls.answer(x, (String) change[0], arguments);
            check.equal(change[0] + " changes the state", false, before.equals(Look.state(x)));
            due(7, x, "undo");
            check.equal("the state before " + change[0], before, Look.state(x));
        }
    }

    @Sentence(of = 0, words = "The changing methods are")
    static void noOtherMethodChangesTheState() {
        List<String> before = Look.atState(Play::busy);
        same("the queries", before, Look.atState(() -> {
            FeatherShares x = Play.busy();
            Look.state(x);
            x.inverse(5);
            x.possibleValues(1, 4);
            x.possibleValuesByTrying(1, 4);
            x.canNestRebuild(0, 1);
            return x;
        }));
        same("the texts", before, Look.atState(() -> {
            FeatherShares x = Play.busy();
            x.append(';');
            x.writeNests();
            x.writeSecret(4);
            x.outputAt(0);
            x.errorPosition();
            x.failedCommand();
            return x;
        }));
    }

    @Sentence(of = 0, words = "Each successful call of them can be undone, also if nothing is different after it")
    static void callsWithoutADifferenceAreUndoneEach() {
        FeatherShares x = Play.withBirds(0);
        x.split(1, 1, 1);
        due(0, x, "move", 0, 0);
        due(0, x, "refresh", 1, 5);
        dueOfText(1, x, "move 0 0");
        dueOfText(2, x, "move 0 3;move 0 0");
        due(5, x, "undo");
        due(4, x, "undo");
        due(3, x, "undo");
        due(2, x, "undo");
        due(true, x, "exists", 1);
        due(1, x, "undo");
        due(false, x, "exists", 1);
    }

    @Sentence(of = 0, words = "at most the 8 most recent ones")
    static void eightCallsButNotNine() {
        for (int calls = 1; calls <= 10; calls++) {
            FeatherShares x = new FeatherShares();
            x.addBird(0);
            for (int i = 1; i < calls; i++) {
                x.move(0, i % 4);
            }
            int undone = Play.undos(x);
            check.equal("the undone ones of " + calls, Math.min(calls, 8), undone);
            due(calls <= 8 ? 0 : 1, x, "birdCount");
        }
    }

    @Sentence(of = 0, words = "the most recent one first.")
    static void undoneInTheOppositeOrder() {
        FeatherShares x = Play.withBirds(0, 1);
        x.split(5, 1, 0);
        x.lose(0, 1);
        due(3, x, "undo");
        due(2, x, "holders", 1);
        due(2, x, "undo");
        due(0, x, "secretCount");
        due(1, x, "undo");
        due(1, x, "birdCount");
        due(0, x, "undo");
        due(0, x, "birdCount");
    }

    @Sentence(of = 0, words = "Undo, save and restore concern the whole state")
    static void lossesAndNumbersAreTakenBackToo() {
        FeatherShares x = Play.busy();
        String before = Look.state(x);
        x.save();
        x.lose(0, 1);
        x.split(1, 1, 1);
        due(7, x, "undo");
        due(6, x, "undo");
        check.equal("the state", before, Look.state(x));
        due(3L, x, "lostTotal");
        due(5, x, "split", 1, 1, 1);
        x.lose(0, 1);
        due(4L, x, "lostTotal");
        due("done", x, "restore");
        check.equal("the state", before, Look.state(x));
        due(5, x, "split", 1, 1, 1);
    }

    @Sentence(of = 0, words = "except the text buffer, the error position, the failed command and the output line.")
    static void textsAndPositionsStay() {
        for (String call : new String[] {"undo", "restore"}) {
            FeatherShares x = Play.busy();
            x.save();
            x.addBird(0);
            Play.type(x, ";bird 0");
            x.run();
            dueOfText(ARGUMENT, x, "mo");
            dueOfText(UNSUPPORTED, x, "bird 4");
            x.writeNests();
            Play.type(x, "move 0 ");
            Calls.answer(x, call);
            due(2, x, "errorPosition");
            due(0, x, "failedCommand");
            due('[', x, "outputAt", 0);
            due(8, x, "append", '3');
            due(1, x, "run");
        }
    }

    @Sentence(of = 0, words = "If a call throws an exception, nothing changes")
    static void runLeavesStateLineAndTheOtherPosition() {
        FeatherShares x = Play.busy();
        String before = Look.state(x);
        x.append(';');
        due(ARGUMENT, x, "run");
        check.equal("the state", before, Look.state(x));
        dueLine("1/3 0:89 2:48 3:67 4:21", x);
        due(1, x, "failedCommand");
        dueOfText(UNSUPPORTED, x, "move 0 3;lose 0 1;bird 4");
        check.equal("the state", before, Look.state(x));
        dueLine("1/3 0:89 2:48 3:67 4:21", x);
        due(16, x, "errorPosition");
        due(7, x, "undo");
    }

    @Sentence(of = 0,
            words = "except that run empties the text buffer and stores the error position or the failed command.")
    static void runEmptiesTheBufferAndStoresOneOfTwo() {
        FeatherShares x = new FeatherShares();
        dueOfText(ARGUMENT, x, "bird 1;");
        due(7, x, "errorPosition");
        due(ELEMENT, x, "failedCommand");
        due(1, x, "append", 'x');
        FeatherShares y = new FeatherShares();
        dueOfText(UNSUPPORTED, y, "bird 1;bird 4");
        due(ELEMENT, y, "errorPosition");
        due(1, y, "failedCommand");
        due(1, y, "append", 'x');
    }

    @Sentence(of = 0, words = "If several conditions of a method apply, the exception that is listed first is thrown.")
    static void theOrderForBirdsAndSecrets() {
        inVain(Play::crowded, ARGUMENT, "addBird", 4);
        inVain(Play::busy, INDEX, "move", 5, 4);
        inVain(Play::crowded, ARGUMENT, "split", 97, 1, 0);
        inVain(Play::crowded, ARGUMENT, "split", 0, 5, 0);
        inVain(Play::crowded, ARGUMENT, "split", 0, 1, -1);
        inVain(() -> Play.withBirds(0), ARGUMENT, "split", 0, 2, 97);
        inVain(FeatherShares::new, ARGUMENT, "split", 0, 0, 0);
        inVain(Play::busy, ELEMENT, "refresh", 2, 97);
    }

    @Sentence(of = 0, words = "the exception that is listed first is thrown.")
    static void theOrderForShares() {
        inVain(Play::busy, INDEX, "lose", 5, 2);
        inVain(Play::busy, INDEX, "lose", -1, 0);
        inVain(Play::busy, INDEX, "spoil", 5, 2, 0);
        inVain(Play::busy, INDEX, "spoil", 5, 1, 97);
        inVain(Play::busy, ELEMENT, "spoil", 0, 2, 0);
        inVain(Play::busy, ARGUMENT, "spoil", 1, 1, 0);
        inVain(Play::busy, ARGUMENT, "spoil", 1, 1, 97);
        inVain(Play::busy, INDEX, "issue", 5, 2);
        inVain(Play::busy, STATE, "issue", 1, 3);
        inVain(Play::busy, INDEX, "holds", 5, 2);
        inVain(Play::busy, INDEX, "share", 5, 2);
    }

    @Sentence(of = 0, words = "If several conditions of a method apply")
    static void theOrderForRebuildingAndPrograms() {
        inVain(Play::busy, ARGUMENT, "canNestRebuild", 4, 2);
        inVain(Play::busy, ARGUMENT, "canNestRebuild", -1, 0);
        inVain(Play::busy, ELEMENT, "possibleValues", 2, -1);
        inVain(Play::busy, ELEMENT, "possibleValues", 2, 9);
        inVain(Play::busy, ELEMENT, "possibleValuesByTrying", 2, -1);
        inVain(Play::busy, ELEMENT, "possibleValuesByTrying", 2, 9);
        // A text that is no program has no command that fails.
        FeatherShares x = new FeatherShares();
        dueOfText(ARGUMENT, x, "bird 9;bird");
        due(ELEMENT, x, "failedCommand");
    }
}
