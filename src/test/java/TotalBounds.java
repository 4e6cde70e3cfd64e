/** The sentences of the promises 31 to 35. */
final class TotalBounds extends Bounds {
    @Sentence(of = 31, words = "Returns the number of all shares that are held.")
    static void shareTotalCountsHeldSharesAlone() {
        FeatherShares x = Play.busy();
        due(12, x, "shareTotal");
        x.lose(0, 1);
        due(11, x, "shareTotal");
        x.issue(1, 1);
        due(12, x, "shareTotal");
        x.spoil(0, 4, 92);
        due(12, x, "shareTotal");
        x.forget(4);
        due(7, x, "shareTotal");
        x.addBird(0);
        due(7, x, "shareTotal");
    }

    @Sentence(of = 31, words = "Returns the number of shares.")
    static void shareTotalGoesFrom0To48() {
        due(0, new FeatherShares(), "shareTotal");
        FeatherShares x = Play.withBirds(0, 0, 0, 0, 0, 0, 0, 0);
        for (int secrets = 0; secrets < 6; secrets++) {
            due(secrets * 8, x, "shareTotal");
            x.split(0, 1, 0);
        }
        due(48, x, "shareTotal");
    }

    @Sentence(of = 32, words = "Returns the number of shares that have been lost so far.")
    static void lostSharesCountAlsoWhenTheyAreIssuedAgainOrForgotten() {
        FeatherShares x = Play.withBirds(0, 0);
        x.split(5, 1, 0);
        due(0L, x, "lostTotal");
        x.lose(1, 1);
        due(1L, x, "lostTotal");
        x.issue(1, 1);
        due(1L, x, "lostTotal");
        x.lose(1, 1);
        due(2L, x, "lostTotal");
        x.forget(1);
        due(2L, x, "lostTotal");
    }

    @Sentence(of = 32, words = "Returns the number of successful calls of lose")
    static void refusedCallsOfLoseDoNotCount() {
        FeatherShares x = Play.busy();
        due(STATE, x, "lose", 1, 1);
        due(INDEX, x, "lose", 5, 1);
        due(ELEMENT, x, "lose", 0, 2);
        due(3L, x, "lostTotal");
    }

    @Sentence(of = 32, words = "and of such commands")
    static void loseCommandsCountIfTheProgramSucceeds() {
        FeatherShares x = Play.withBirds(0, 0);
        x.split(5, 1, 0);
        dueOfText(UNSUPPORTED, x, "lose 0 1;lose 0 1");
        due(0L, x, "lostTotal");
        dueOfText(2, x, "lose 0 1;lose 1 1");
        due(2L, x, "lostTotal");
    }

    @Sentence(of = 33, words = "Returns the mean number of shares of the birds.")
    static void meanSharesOfOneBirdAndOfEight() {
        FeatherShares x = Play.withBirds(0);
        x.split(1, 1, 0);
        due(1.0, x, "meanShares");
        for (int birds = 2; birds <= 8; birds++) {
            x.addBird(0);
            due(1.0 / birds, x, "meanShares");
        }
    }

    @Sentence(of = 33,
            words = "Returns the number of all shares divided by the number of birds, both converted to double.")
    static void meanSharesIsADouble() {
        due(2.4, Play.busy(), "meanShares");
        due(0.0, Play.withBirds(0, 0, 0), "meanShares");
        FeatherShares x = Play.withBirds(0, 0, 0);
        x.split(1, 1, 0);
        x.lose(0, 1);
        due(2.0 / 3.0, x, "meanShares");
        for (int i = 0; i < 5; i++) {
            x.split(1, 1, 0);
        }
        due(17.0 / 3.0, x, "meanShares");
    }

    @Sentence(of = 33, words = "Throws ArithmeticException if there are no birds")
    static void meanSharesNeedsABird() {
        inVain(FeatherShares::new, ARITHMETIC, "meanShares");
        inVain(() -> {
            FeatherShares x = Play.withBirds(0);
            x.undo();
            return x;
        }, ARITHMETIC, "meanShares");
        due(0.0, Play.withBirds(0), "meanShares");
    }

    @Sentence(of = 34, words = "Returns the share of the secrets that can be rebuilt.")
    static void rebuildableShareOfOneSecretAndOfSix() {
        FeatherShares x = Play.withBirds(0, 0);
        x.split(1, 2, 0);
        x.lose(0, 1);
        due(0f, x, "rebuildableShare");
        for (int secrets = 2; secrets <= 6; secrets++) {
            x.split(1, 2, 0);
            due((float) (secrets - 1) / (float) secrets, x, "rebuildableShare");
        }
        x.forget(1);
        due(1f, x, "rebuildableShare");
    }

    @Sentence(of = 34, words = "Returns the number of secrets with at least as many holders as the threshold")
    static void justAsManyHoldersAsTheThresholdAreEnough() {
        for (int threshold = 1; threshold <= 4; threshold++) {
            due(1f, Play.held(threshold, threshold), "rebuildableShare");
            due(0f, Play.held(threshold, threshold - 1), "rebuildableShare");
        }
    }

    @Sentence(of = 34, words = "divided by the number of secrets, both converted to float.")
    static void rebuildableShareIsAFloat() {
        due(2f / 3f, Play.busy(), "rebuildableShare");
        due(5f / 6f, Play.crowded(), "rebuildableShare");
    }

    @Sentence(of = 34, words = "Throws ArithmeticException if there are no secrets")
    static void rebuildableShareNeedsASecret() {
        inVain(FeatherShares::new, ARITHMETIC, "rebuildableShare");
        inVain(() -> {
            FeatherShares x = Play.busy();
            x.forget(1);
            x.forget(3);
            x.forget(4);
            return x;
        }, ARITHMETIC, "rebuildableShare");
        due(0f, Play.held(1, 0), "rebuildableShare");
    }

    @Sentence(of = 35, words = "both ways of rebuilding agree for all secrets that can be rebuilt")
    static void bothWaysOfRebuildingAgree() {
        for (int threshold = 1; threshold <= 4; threshold++) {
            for (int holders = 0; holders <= 8; holders++) {
                due(true, Play.held(threshold, holders), "isConsistent");
            }
        }
    }

    @Sentence(of = 35, words = "both ways of counting possible values agree for all secrets with all holders known.")
    static void bothWaysOfCountingValuesAgree() {
        for (int threshold = 1; threshold <= 4; threshold++) {
            for (int bird = 0; bird < 8; bird++) {
                FeatherShares x = Play.held(threshold, 8);
                x.spoil(bird, 1, 96);
                due(true, x, "isConsistent");
            }
        }
    }

    @Sentence(of = 35, words = "Returns true if all invariants hold.")
    static void isConsistentWithNoneAndWithSixSecrets() {
        due(true, new FeatherShares(), "isConsistent");
        due(true, Play.withBirds(0, 0), "isConsistent");
        due(true, Play.busy(), "isConsistent");
        due(true, Play.crowded(), "isConsistent");
    }
}
