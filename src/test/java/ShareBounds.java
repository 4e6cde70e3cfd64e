/** The sentences of the promises 15 to 23. */
final class ShareBounds extends Bounds {
    @Sentence(of = 15, words = "Returns the number of secrets.")
    static void secretCountFollowsSplitAndForget() {
        FeatherShares x = Play.busy();
        due(3, x, "secretCount");
        x.split(1, 1, 1);
        due(4, x, "secretCount");
        x.forget(1);
        x.forget(5);
        due(2, x, "secretCount");
        x.undo();
        due(3, x, "secretCount");
    }

    @Sentence(of = 15, words = "Returns the number, 0 to 6.")
    static void secretCountGoesFrom0To6() {
        FeatherShares x = Play.withBirds(0);
        for (int secrets = 0; secrets < 6; secrets++) {
            due(secrets, x, "secretCount");
            x.split(1, 1, 1);
        }
        due(6, x, "secretCount");
        due(STATE, x, "split", 1, 1, 1);
        due(6, x, "secretCount");
        for (int number = 1; number <= 6; number++) {
            x.forget(number);
            due(6 - number, x, "secretCount");
        }
    }

    @Sentence(of = 16, words = "Returns whether a secret exists.")
    static void aSecretExistsFromItsSplitToItsForget() {
        FeatherShares x = Play.withBirds(0);
        due(false, x, "exists", 1);
        x.split(1, 1, 1);
        due(true, x, "exists", 1);
        x.lose(0, 1);
        due(true, x, "exists", 1);
        x.forget(1);
        due(false, x, "exists", 1);
    }

    @Sentence(of = 16, words = "secret: any number")
    static void existsTakesAnyNumber() {
        int[] numbers = {Integer.MIN_VALUE, -97, -1, 0, 5, 6, 97, 98, 256, 65537, Integer.MAX_VALUE};
        for (int number : numbers) {
            due(false, Play.busy(), "exists", number);
            due(false, new FeatherShares(), "exists", number);
        }
    }

    @Sentence(of = 16, words = "Returns true if a secret has this number.")
    static void existsIsTrueForTheNumbersGivenAndNotForgotten() {
        boolean[] exists = {false, true, false, true, true, false};
        for (int number = 0; number < exists.length; number++) {
            due(exists[number], Play.busy(), "exists", number);
        }
        due(true, Play.crowded(), "exists", 7);
        due(false, Play.crowded(), "exists", 8);
    }

    @Sentence(of = 17, words = "Returns a secret by its position in the order of the numbers.")
    static void positionsFollowTheNumbers() {
        FeatherShares x = Play.crowded();
        x.forget(4);
        x.forget(1);
        x.split(1, 1, 1);
        int[] numbers = {3, 5, 6, 7, 8};
        for (int position = 0; position < numbers.length; position++) {
            due(numbers[position], x, "secretAt", position);
        }
        due(INDEX, x, "secretAt", 5);
    }

    @Sentence(of = 17, words = "position: the position, from 0")
    static void theFirstPositionIs0() {
        due(1, Play.busy(), "secretAt", 0);
        due(4, Play.busy(), "secretAt", 2);
        due(1, Play.crowded(), "secretAt", 0);
        due(7, Play.crowded(), "secretAt", 5);
    }

    @Sentence(of = 17, words = "Returns the number of the secret.")
    static void secretAtReturnsTheNumberNotThePosition() {
        FeatherShares x = Play.withBirds(0);
        for (int number = 1; number <= 10; number++) {
            due(number, x, "split", 1, 1, 1);
            due(number, x, "secretAt", 0);
            x.forget(number);
        }
    }

    @Sentence(of = 17,
            words = "Throws IndexOutOfBoundsException if the position is negative or not less than the number "
                + "of secrets")
    static void secretAtRefusesOtherPositions() {
        inVainOutside(0, 2, Play::busy, INDEX, "secretAt", TESTED);
        inVainOutside(0, 5, Play::crowded, INDEX, "secretAt", TESTED);
        inVain(FeatherShares::new, INDEX, "secretAt", 0);
        inVain(FeatherShares::new, INDEX, "secretAt", -1);
    }

    @Sentence(of = 18, words = "Returns the threshold of a secret.")
    static void thresholdStaysWhenSharesChange() {
        FeatherShares x = Play.busy();
        due(3, x, "threshold", 1);
        x.lose(0, 1);
        x.lose(2, 1);
        x.lose(3, 1);
        x.refresh(1, 5);
        due(3, x, "threshold", 1);
        x.lose(4, 1);
        due(3, x, "threshold", 1);
    }

    @Sentence(of = 18, words = "secret: the number of the secret")
    static void thresholdTakesTheFirstAndTheLastSecret() {
        due(3, Play.crowded(), "threshold", 1);
        due(4, Play.crowded(), "threshold", 3);
        due(1, Play.crowded(), "threshold", 4);
        due(3, Play.crowded(), "threshold", 7);
    }

    @Sentence(of = 18, words = "Returns the threshold, 1 to 4.")
    static void thresholdGoesFrom1To4() {
        for (int threshold = 1; threshold <= 4; threshold++) {
            due(threshold, Play.held(threshold, 8), "threshold", 1);
            due(threshold, Play.held(threshold, 0), "threshold", 1);
        }
    }

    @Sentence(of = 18, words = "Throws NoSuchElementException if there is no such secret")
    static void thresholdRefusesNoSecret() {
        inVainForNoSecret("threshold", TESTED);
    }

    @Sentence(of = 19, words = "Returns whether a bird holds a share of a secret.")
    static void holdsFollowsLoseAndIssue() {
        FeatherShares x = Play.busy();
        due(true, x, "holds", 2, 1);
        x.lose(2, 1);
        due(false, x, "holds", 2, 1);
        x.issue(2, 1);
        due(true, x, "holds", 2, 1);
    }

    @Sentence(of = 19, words = "bird: the index of the bird")
    static void holdsTakesTheFirstAndTheLastBird() {
        due(true, Play.crowded(), "holds", 0, 7);
        due(true, Play.crowded(), "holds", 7, 7);
        due(false, Play.crowded(), "holds", 0, 3);
        due(false, Play.crowded(), "holds", 7, 3);
    }

    @Sentence(of = 19, words = "secret: the number of the secret")
    static void holdsTakesTheFirstAndTheLastSecret() {
        due(true, Play.crowded(), "holds", 4, 1);
        due(false, Play.crowded(), "holds", 5, 1);
        due(true, Play.crowded(), "holds", 5, 7);
    }

    @Sentence(of = 19, words = "Returns true if it holds a share.")
    static void holdsIsTrueForAShareOf0() {
        FeatherShares x = Play.busy();
        x.spoil(0, 4, 92);
        due(0, x, "share", 0, 4);
        due(true, x, "holds", 0, 4);
        due(false, x, "holds", 1, 1);
    }

    @Sentence(of = 19, words = "Throws IndexOutOfBoundsException if there is no such bird")
    static void holdsRefusesNoBird() {
        inVainForNoBird("holds", TESTED, 1);
        inVain(Play::crowded, INDEX, "holds", 8, 7);
    }

    @Sentence(of = 19, words = "Throws NoSuchElementException if there is no such secret")
    static void holdsRefusesNoSecret() {
        inVainForNoSecret("holds", 0, TESTED);
    }

    @Sentence(of = 20, words = "Returns the share of a secret that a bird holds.")
    static void shareTellsTheShareOfEachBirdAndSecret() {
        FeatherShares x = Play.busy();
        due(89, x, "share", 0, 1);
        due(48, x, "share", 2, 1);
        due(67, x, "share", 3, 1);
        due(34, x, "share", 2, 3);
        due(5, x, "share", 2, 4);
    }

    @Sentence(of = 20, words = "bird: the index of the bird")
    static void shareTakesTheFirstAndTheLastBird() {
        due(85, Play.crowded(), "share", 0, 7);
        due(31, Play.crowded(), "share", 7, 7);
    }

    @Sentence(of = 20, words = "secret: the number of the secret")
    static void shareTakesTheFirstAndTheLastSecret() {
        due(21, Play.crowded(), "share", 4, 1);
        due(55, Play.crowded(), "share", 4, 7);
    }

    @Sentence(of = 20, words = "Returns the share, 0 to 96.")
    static void shareGoesFrom0To96() {
        FeatherShares x = Play.withBirds(0);
        x.split(0, 1, 0);
        x.split(96, 1, 0);
        due(0, x, "share", 0, 1);
        due(96, x, "share", 0, 2);
    }

    @Sentence(of = 20, words = "Throws IndexOutOfBoundsException if there is no such bird")
    static void shareRefusesNoBird() {
        inVainForNoBird("share", TESTED, 4);
        inVain(Play::crowded, INDEX, "share", 8, 7);
    }

    @Sentence(of = 20, words = "Throws NoSuchElementException if there is no such secret")
    static void shareRefusesNoSecret() {
        inVainForNoSecret("share", 0, TESTED);
    }

    @Sentence(of = 20, words = "Throws IllegalStateException if the bird does not hold a share of it")
    static void shareRefusesABirdWithoutTheShare() {
        inVain(Play::busy, STATE, "share", 1, 1);
        inVain(Play::busy, STATE, "share", 4, 3);
        inVain(Play::crowded, STATE, "share", 7, 1);
    }

    @Sentence(of = 21, words = "Returns the number of holders of a secret.")
    static void holdersFollowsLoseAndIssue() {
        FeatherShares x = Play.busy();
        due(4, x, "holders", 1);
        x.issue(1, 1);
        due(5, x, "holders", 1);
        x.lose(0, 1);
        due(4, x, "holders", 1);
        x.spoil(2, 1, 1);
        due(4, x, "holders", 1);
    }

    @Sentence(of = 21, words = "secret: the number of the secret")
    static void holdersTakesTheFirstAndTheLastSecret() {
        due(4, Play.crowded(), "holders", 1);
        due(3, Play.crowded(), "holders", 3);
        due(8, Play.crowded(), "holders", 7);
    }

    @Sentence(of = 21, words = "Returns the number of birds.")
    static void holdersGoesFrom0To8() {
        for (int holders = 0; holders <= 8; holders++) {
            due(holders, Play.held(4, holders), "holders", 1);
        }
    }

    @Sentence(of = 21, words = "Throws NoSuchElementException if there is no such secret")
    static void holdersRefusesNoSecret() {
        inVainForNoSecret("holders", TESTED);
    }

    @Sentence(of = 22, words = "Returns the number of shares that can still be lost so that the secret can be rebuilt.")
    static void soManySharesCanBeLost() {
        FeatherShares x = Play.held(3, 5);
        due(2, x, "spareShares", 1);
        x.lose(0, 1);
        x.lose(1, 1);
        due(0, x, "spareShares", 1);
        due(42, x, "rebuild", 1);
        x.lose(2, 1);
        due(-1, x, "spareShares", 1);
        due(STATE, x, "rebuild", 1);
    }

    @Sentence(of = 22, words = "secret: the number of the secret")
    static void spareSharesTakesTheFirstAndTheLastSecret() {
        due(1, Play.crowded(), "spareShares", 1);
        due(-1, Play.crowded(), "spareShares", 3);
        due(5, Play.crowded(), "spareShares", 7);
    }

    @Sentence(of = 22, words = "Returns the number of holders minus the threshold, which can be negative.")
    static void spareSharesGoesFromMinus4To7() {
        for (int threshold = 1; threshold <= 4; threshold++) {
            for (int holders = 0; holders <= 8; holders++) {
                due(holders - threshold, Play.held(threshold, holders), "spareShares", 1);
            }
        }
    }

    @Sentence(of = 22, words = "Throws NoSuchElementException if there is no such secret")
    static void spareSharesRefusesNoSecret() {
        inVainForNoSecret("spareShares", TESTED);
    }

    @Sentence(of = 23,
            words = "Returns whether the birds of a nest hold enough shares to rebuild a secret without other birds.")
    static void holdersOfOtherNestsDoNotHelp() {
        FeatherShares x = Play.withBirds(0, 1, 1, 2, 2, 2, 3, 3);
        x.split(42, 2, 5);
        boolean[] can = {false, true, true, true};
        for (int nest = 0; nest < 4; nest++) {
            due(can[nest], x, "canNestRebuild", nest, 1);
        }
        x.move(6, 0);
        due(true, x, "canNestRebuild", 0, 1);
        due(false, x, "canNestRebuild", 3, 1);
    }

    @Sentence(of = 23, words = "nest: the nest, 0 to 3")
    static void canNestRebuildTakesTheNests0To3() {
        for (int nest = 0; nest < 4; nest++) {
            FeatherShares x = Play.withBirds(nest);
            x.split(42, 1, 5);
            for (int asked = 0; asked < 4; asked++) {
                due(asked == nest, x, "canNestRebuild", asked, 1);
            }
        }
    }

    @Sentence(of = 23, words = "secret: the number of the secret")
    static void canNestRebuildTakesTheFirstAndTheLastSecret() {
        FeatherShares x = Play.crowded();
        // The nest 1 has the birds 1, 2 and 6.
        due(false, x, "canNestRebuild", 1, 1);
        due(true, x, "canNestRebuild", 1, 7);
    }

    @Sentence(of = 23, words = "Returns true if the nest has at least as many holders as the threshold.")
    static void asManyHoldersInTheNestAsTheThresholdAreEnough() {
        for (int threshold = 1; threshold <= 4; threshold++) {
            // The birds 0, 2, 4 and 6 are in the nest 0.
            due(true, Play.held(threshold, threshold * 2 - 1), "canNestRebuild", 0, 1);
            due(false, Play.held(threshold, threshold * 2 - 2), "canNestRebuild", 0, 1);
            due(false, Play.held(threshold, threshold * 2 - 1), "canNestRebuild", 3, 1);
            due(true, Play.held(threshold, threshold * 2), "canNestRebuild", 3, 1);
        }
        FeatherShares x = Play.busy();
        due(false, x, "canNestRebuild", 1, 3);
    }

    @Sentence(of = 23, words = "Throws IllegalArgumentException if the nest is out of range")
    static void canNestRebuildRefusesOtherNests() {
        inVainOutside(0, 3, Play::busy, ARGUMENT, "canNestRebuild", TESTED, 1);
        inVainOutside(0, 3, Play::busy, ARGUMENT, "canNestRebuild", TESTED, 4);
    }

    @Sentence(of = 23, words = "Throws NoSuchElementException if there is no such secret")
    static void canNestRebuildRefusesNoSecret() {
        inVainForNoSecret("canNestRebuild", 0, TESTED);
        inVainForNoSecret("canNestRebuild", 3, TESTED);
    }
}
