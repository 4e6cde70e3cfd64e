/** The sentences of the promises 1 to 3 and 10 to 14. */
final class BirdBounds extends Bounds {
    private static FeatherShares sevenBirds() {
        FeatherShares x = Play.busy();
        x.addBird(0);
        x.addBird(1);
        return x;
    }

    @Sentence(of = 1, words = "Creates a model without birds")
    static void newWithoutBirds() {
        FeatherShares x = new FeatherShares();
        due(0, x, "birdCount");
        for (int nest = 0; nest < 4; nest++) {
            due(0, x, "birdsIn", nest);
        }
        due(INDEX, x, "nestOf", 0);
        due(INDEX, x, "sharesOf", 0);
        due(ELEMENT, x, "birdAtRank", 0);
        due(ARITHMETIC, x, "meanShares");
        due(8, x, "writeNests");
        dueLine("[][][][]", x);
        due(0, x, "addBird", 0);
    }

    @Sentence(of = 1, words = "Creates a model without birds and secrets.")
    static void newWithoutSecrets() {
        FeatherShares x = new FeatherShares();
        due(0, x, "secretCount");
        due(false, x, "exists", 0);
        due(false, x, "exists", 1);
        due(INDEX, x, "secretAt", 0);
        due(ELEMENT, x, "threshold", 1);
        due(0, x, "shareTotal");
        due(0L, x, "lostTotal");
        due(ARITHMETIC, x, "rebuildableShare");
        due(true, x, "isConsistent");
        x.addBird(0);
        due(1, x, "split", 5, 1, 0);
    }

    @Sentence(of = 1, words = "Creates a model")
    static void eachNewModelIsItsOwn() {
        FeatherShares x = new FeatherShares();
        Play.busy();
        due(0, x, "birdCount");
        due(0, x, "secretCount");
        due(INDEX, x, "outputAt", 0);
        due(STATE, x, "undo");
        due(STATE, x, "restore");
        due(ELEMENT, x, "errorPosition");
        due(ELEMENT, x, "failedCommand");
        due(1, x, "append", 'b');
    }

    @Sentence(of = 2, words = "Adds a bird that holds no shares.")
    static void addedBirdHoldsNoShares() {
        FeatherShares x = Play.busy();
        due(5, x, "addBird", 0);
        due(6, x, "birdCount");
        due(0, x, "sharesOf", 5);
        due(false, x, "holds", 5, 1);
        due(false, x, "holds", 5, 3);
        due(false, x, "holds", 5, 4);
        due(5, x, "holders", 4);
        due(12, x, "shareTotal");
    }

    @Sentence(of = 2, words = "nest: the nest, 0 to 3")
    static void addBirdTakesTheNests0To3() {
        FeatherShares x = new FeatherShares();
        for (int nest = 0; nest < 4; nest++) {
            due(nest, x, "addBird", nest);
            due(nest, x, "nestOf", nest);
            due(1, x, "birdsIn", nest);
        }
    }

    @Sentence(of = 2, words = "Returns the index of the bird.")
    static void addBirdReturnsTheIndices0To7() {
        FeatherShares x = new FeatherShares();
        for (int bird = 0; bird < 8; bird++) {
            due(bird, x, "addBird", 3);
        }
    }

    @Sentence(of = 2, words = "Throws IllegalArgumentException if the nest is out of range")
    static void addBirdRefusesOtherNests() {
        inVainOutside(0, 3, Play::busy, ARGUMENT, "addBird", TESTED);
        inVainOutside(0, 3, FeatherShares::new, ARGUMENT, "addBird", TESTED);
    }

    @Sentence(of = 2, words = "Throws IllegalStateException if there are 8 birds")
    static void addBirdRefusesANinthBird() {
        due(7, sevenBirds(), "addBird", 0);
        due(8, Play.crowded(), "birdCount");
        inVain(Play::crowded, STATE, "addBird", 0);
        inVain(Play::crowded, STATE, "addBird", 3);
    }

    @Sentence(of = 3, words = "Moves a bird to a nest.")
    static void moveMovesOneBirdWithItsShares() {
        FeatherShares x = Play.busy();
        due(3, x, "move", 3, 0);
        due(13, x, "writeNests");
        dueLine("[03][12][4][]", x);
        due(67, x, "share", 3, 1);
        due(81, x, "share", 3, 3);
        due(12, x, "shareTotal");
    }

    @Sentence(of = 3, words = "bird: the index of the bird")
    static void moveTakesTheFirstAndTheLastBird() {
        FeatherShares x = Play.busy();
        due(0, x, "move", 0, 3);
        due(3, x, "nestOf", 0);
        due(2, x, "move", 4, 1);
        due(1, x, "nestOf", 4);
        FeatherShares y = Play.crowded();
        due(2, y, "move", 7, 0);
        due(0, y, "nestOf", 7);
    }

    @Sentence(of = 3, words = "nest: the nest, 0 to 3")
    static void moveTakesTheNests0To3() {
        FeatherShares x = Play.busy();
        for (int nest = 0; nest < 4; nest++) {
            x.move(2, nest);
            due(nest, x, "nestOf", 2);
        }
    }

    @Sentence(of = 3, words = "Returns the previous nest.")
    static void moveReturnsThePreviousNestEvenIfItStays() {
        FeatherShares x = Play.busy();
        due(0, x, "move", 0, 0);
        due(0, x, "move", 0, 3);
        due(3, x, "move", 0, 3);
        due(3, x, "move", 0, 0);
    }

    @Sentence(of = 3, words = "Throws IndexOutOfBoundsException if there is no such bird")
    static void moveRefusesNoBird() {
        inVainForNoBird("move", TESTED, 0);
        inVain(Play::crowded, INDEX, "move", 8, 0);
    }

    @Sentence(of = 3, words = "Throws IllegalArgumentException if the nest is out of range")
    static void moveRefusesOtherNests() {
        inVainOutside(0, 3, Play::busy, ARGUMENT, "move", 0, TESTED);
        inVainOutside(0, 3, Play::busy, ARGUMENT, "move", 4, TESTED);
    }

    @Sentence(of = 10, words = "Returns the number of birds.")
    static void birdCountFollowsAddBirdAndUndo() {
        FeatherShares x = new FeatherShares();
        x.addBird(0);
        due(1, x, "birdCount");
        x.undo();
        due(0, x, "birdCount");
        due(5, Play.busy(), "birdCount");
    }

    @Sentence(of = 10, words = "Returns the number, 0 to 8.")
    static void birdCountGoesFrom0To8() {
        FeatherShares x = new FeatherShares();
        for (int birds = 0; birds < 8; birds++) {
            due(birds, x, "birdCount");
            x.addBird(0);
        }
        due(8, x, "birdCount");
        due(STATE, x, "addBird", 0);
        due(8, x, "birdCount");
    }

    @Sentence(of = 11, words = "Returns the nest of a bird.")
    static void nestOfTellsTheNest() {
        FeatherShares x = Play.busy();
        int[] nests = {0, 1, 1, 3, 2};
        for (int bird = 0; bird < 5; bird++) {
            due(nests[bird], x, "nestOf", bird);
        }
    }

    @Sentence(of = 11, words = "bird: the index of the bird")
    static void nestOfTakesTheFirstAndTheLastBird() {
        due(0, Play.crowded(), "nestOf", 0);
        due(2, Play.crowded(), "nestOf", 7);
        due(2, Play.withBirds(2), "nestOf", 0);
    }

    @Sentence(of = 11, words = "Returns the nest, 0 to 3.")
    static void nestOfGoesFrom0To3() {
        due(0, Play.withBirds(0), "nestOf", 0);
        due(3, Play.withBirds(3), "nestOf", 0);
    }

    @Sentence(of = 11, words = "Throws IndexOutOfBoundsException if there is no such bird")
    static void nestOfRefusesNoBird() {
        inVainForNoBird("nestOf", TESTED);
        inVain(Play::crowded, INDEX, "nestOf", 8);
    }

    @Sentence(of = 12, words = "Returns the number of birds in a nest.")
    static void birdsInCountsTheBirds() {
        FeatherShares x = Play.busy();
        due(1, x, "birdsIn", 0);
        due(2, x, "birdsIn", 1);
        due(1, x, "birdsIn", 2);
        due(1, x, "birdsIn", 3);
        x.move(1, 3);
        due(1, x, "birdsIn", 1);
        due(2, x, "birdsIn", 3);
    }

    @Sentence(of = 12, words = "nest: the nest, 0 to 3")
    static void birdsInTakesTheNests0To3() {
        for (int nest = 0; nest < 4; nest++) {
            due(2, Play.withBirds(nest, nest), "birdsIn", nest);
            due(0, new FeatherShares(), "birdsIn", nest);
        }
    }

    @Sentence(of = 12, words = "Returns the number of birds.")
    static void birdsInGoesFrom0To8() {
        FeatherShares x = Play.withBirds(3, 3, 3, 3, 3, 3, 3, 3);
        due(8, x, "birdsIn", 3);
        due(0, x, "birdsIn", 0);
        due(0, x, "birdsIn", 2);
    }

    @Sentence(of = 12, words = "Throws IllegalArgumentException if the nest is out of range")
    static void birdsInRefusesOtherNests() {
        inVainOutside(0, 3, Play::busy, ARGUMENT, "birdsIn", TESTED);
        inVainOutside(0, 3, FeatherShares::new, ARGUMENT, "birdsIn", TESTED);
    }

    @Sentence(of = 13, words = "Returns the number of shares that a bird holds.")
    static void sharesOfCountsTheShares() {
        FeatherShares x = Play.busy();
        int[] shares = {2, 2, 3, 3, 2};
        for (int bird = 0; bird < 5; bird++) {
            due(shares[bird], x, "sharesOf", bird);
        }
        x.issue(1, 1);
        due(3, x, "sharesOf", 1);
        x.forget(4);
        due(2, x, "sharesOf", 1);
    }

    @Sentence(of = 13, words = "bird: the index of the bird")
    static void sharesOfTakesTheFirstAndTheLastBird() {
        due(5, Play.crowded(), "sharesOf", 0);
        due(3, Play.crowded(), "sharesOf", 7);
    }

    @Sentence(of = 13, words = "Returns the number of shares, 0 to 6.")
    static void sharesOfGoesFrom0To6() {
        FeatherShares x = Play.withBirds(0);
        for (int shares = 0; shares < 6; shares++) {
            due(shares, x, "sharesOf", 0);
            x.split(0, 1, 0);
        }
        due(6, x, "sharesOf", 0);
    }

    @Sentence(of = 13, words = "Throws IndexOutOfBoundsException if there is no such bird")
    static void sharesOfRefusesNoBird() {
        inVainForNoBird("sharesOf", TESTED);
        inVain(Play::crowded, INDEX, "sharesOf", 8);
    }

    private static void dueRanks(FeatherShares x, int... birds) {
        for (int rank = 0; rank < birds.length; rank++) {
            due(birds[rank], x, "birdAtRank", rank);
        }
    }

    @Sentence(of = 14, words = "Returns the bird at a rank.")
    static void birdAtRankTellsEachBirdOnce() {
        dueRanks(Play.busy(), 2, 3, 0, 1, 4);
    }

    @Sentence(of = 14, words = "Birds are ranked by the number of shares that they hold in descending order")
    static void moreSharesRankAheadOfNestAndIndex() {
        FeatherShares x = Play.withBirds(0, 1, 3);
        x.split(0, 1, 0);
        x.lose(0, 1);
        x.lose(1, 1);
        dueRanks(x, 2, 0, 1);
        x.split(0, 1, 0);
        x.lose(0, 2);
        dueRanks(x, 2, 1, 0);
    }

    @Sentence(of = 14, words = "then by nest in ascending order")
    static void theNestRanksAheadOfTheIndex() {
        dueRanks(Play.withBirds(3, 2, 1, 0), 3, 2, 1, 0);
        dueRanks(Play.withBirds(1, 0), 1, 0);
        dueRanks(Play.withBirds(3, 2), 1, 0);
    }

    @Sentence(of = 14, words = "then by index in ascending order")
    static void theIndexRanksLast() {
        dueRanks(Play.withBirds(2, 2, 2, 2, 2, 2, 2, 2), 0, 1, 2, 3, 4, 5, 6, 7);
    }

    @Sentence(of = 14, words = "rank: the rank, from 0")
    static void theFirstRankIs0() {
        due(0, Play.withBirds(3), "birdAtRank", 0);
        due(4, Play.busy(), "birdAtRank", 4);
    }

    @Sentence(of = 14, words = "Returns the index of the bird.")
    static void birdAtRankReturnsIndices0To7() {
        dueRanks(Play.withBirds(3, 3, 2, 2, 1, 1, 0, 0), 6, 7, 4, 5, 2, 3, 0, 1);
    }

    @Sentence(of = 14,
            words = "Throws NoSuchElementException if the rank is negative or not less than the number of birds")
    static void birdAtRankRefusesOtherRanks() {
        inVainOutside(0, 4, Play::busy, ELEMENT, "birdAtRank", TESTED);
        inVainOutside(0, 7, Play::crowded, ELEMENT, "birdAtRank", TESTED);
        inVain(FeatherShares::new, ELEMENT, "birdAtRank", 0);
        inVain(FeatherShares::new, ELEMENT, "birdAtRank", -1);
    }
}
