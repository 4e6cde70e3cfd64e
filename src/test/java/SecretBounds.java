/** The sentences of the promises 4 to 9. */
final class SecretBounds extends Bounds {
    private static FeatherShares fiveSecrets() {
        FeatherShares x = Play.busy();
        x.split(9, 1, 7);
        x.split(9, 1, 7);
        return x;
    }

    private static FeatherShares nobodyHolds() {
        FeatherShares x = Play.busy();
        for (int bird = 1; bird <= 3; bird++) {
            x.lose(bird, 3);
        }
        return x;
    }

    private static void dueLineOf(String want, FeatherShares x, int secret) {
        due(want.length(), x, "writeSecret", secret);
        dueLine(want, x);
    }

    @Sentence(of = 4, words = "Splits a value.")
    static void splitDealsSharesThatRebuildTheValue() {
        FeatherShares x = Play.busy();
        x.split(42, 3, 5);
        dueLineOf("5/3 0:89 1:91 2:48 3:57 4:21", x, 5);
        due(42, x, "rebuild", 5);
    }

    @Sentence(of = 4, words = "value: the value, 0 to 96")
    static void splitTakesTheValues0To96() {
        for (int value = 0; value <= 96; value++) {
            FeatherShares x = Play.withBirds(0);
            due(1, x, "split", value, 1, 3);
            due(value, x, "share", 0, 1);
        }
    }

    @Sentence(of = 4, words = "threshold: the threshold, 1 to 4")
    static void splitTakesTheThresholds1To4() {
        FeatherShares x = Play.withBirds(0, 1, 2, 3);
        for (int threshold = 1; threshold <= 4; threshold++) {
            due(threshold, x, "split", 8, threshold, 3);
            due(threshold, x, "threshold", threshold);
        }
    }

    @Sentence(of = 4, words = "seed: the seed, 0 to 96")
    static void splitTakesTheSeeds0To96() {
        for (int seed = 0; seed <= 96; seed++) {
            FeatherShares x = Play.withBirds(0, 0);
            due(1, x, "split", 0, 2, seed);
            due((seed + 13) % 97, x, "share", 0, 1);
            due((seed + 13) * 2 % 97, x, "share", 1, 1);
        }
    }

    @Sentence(of = 4, words = "Returns the number of the secret.")
    static void splitReturnsTheNextNumber() {
        due(1, Play.withBirds(0), "split", 0, 1, 0);
        due(5, Play.busy(), "split", 0, 1, 0);
        FeatherShares x = Play.withBirds(0);
        for (int number = 1; number <= 6; number++) {
            due(number, x, "split", 0, 1, 0);
        }
    }

    @Sentence(of = 4, words = "Throws IllegalArgumentException if the value")
    static void splitRefusesOtherValues() {
        inVainOutside(0, 96, Play::busy, ARGUMENT, "split", TESTED, 1, 0);
        inVainOutside(0, 96, Play::busy, ARGUMENT, "split", TESTED, 4, 96);
    }

    @Sentence(of = 4, words = "Throws IllegalArgumentException if the value, the threshold")
    static void splitRefusesOtherThresholds() {
        inVainOutside(1, 4, Play::busy, ARGUMENT, "split", 0, TESTED, 0);
        inVainOutside(1, 4, Play::crowded, ARGUMENT, "split", 96, TESTED, 96);
    }

    @Sentence(of = 4, words = "Throws IllegalArgumentException if the value, the threshold or the seed is out of range")
    static void splitRefusesOtherSeeds() {
        inVainOutside(0, 96, Play::busy, ARGUMENT, "split", 0, 1, TESTED);
        inVainOutside(0, 96, Play::busy, ARGUMENT, "split", 96, 4, TESTED);
    }

    @Sentence(of = 4, words = "Throws IllegalStateException if there are 6 secrets")
    static void splitRefusesASeventhSecret() {
        due(7, fiveSecrets(), "split", 0, 1, 0);
        due(6, Play.crowded(), "secretCount");
        inVain(Play::crowded, STATE, "split", 0, 1, 0);
        inVain(Play::crowded, STATE, "split", 96, 4, 96);
        FeatherShares x = Play.crowded();
        x.forget(1);
        due(8, x, "split", 0, 1, 0);
    }

    @Sentence(of = 4, words = "or fewer birds than the threshold")
    static void splitRefusesFewerBirdsThanTheThreshold() {
        inVain(FeatherShares::new, STATE, "split", 0, 1, 0);
        due(1, Play.withBirds(0), "split", 0, 1, 0);
        inVain(() -> Play.withBirds(0), STATE, "split", 0, 2, 0);
        due(1, Play.withBirds(0, 1), "split", 0, 2, 0);
        inVain(() -> Play.withBirds(0, 1), STATE, "split", 0, 3, 0);
        due(1, Play.withBirds(0, 1, 2), "split", 0, 3, 0);
        inVain(() -> Play.withBirds(0, 1, 2), STATE, "split", 0, 4, 0);
        due(1, Play.withBirds(0, 1, 2, 3), "split", 0, 4, 0);
    }

    @Sentence(of = 5, words = "Lets a bird lose a share.")
    static void loseTakesOneShareAlone() {
        FeatherShares x = Play.busy();
        due(3, x, "lose", 2, 1);
        dueLineOf("1/3 0:89 3:67 4:21", x, 1);
        dueLineOf("3/4 1:49 2:34 3:81", x, 3);
        due(11, x, "shareTotal");
        due(4L, x, "lostTotal");
    }

    @Sentence(of = 5, words = "bird: the index of the bird")
    static void loseTakesTheFirstAndTheLastBird() {
        FeatherShares x = Play.crowded();
        due(7, x, "lose", 0, 5);
        due(6, x, "lose", 7, 5);
        due(false, x, "holds", 0, 5);
        due(false, x, "holds", 7, 5);
        due(true, x, "holds", 6, 5);
    }

    @Sentence(of = 5, words = "secret: the number of the secret")
    static void loseTakesTheFirstAndTheLastSecret() {
        FeatherShares x = Play.crowded();
        due(3, x, "lose", 0, 1);
        due(7, x, "lose", 0, 7);
        due(false, x, "holds", 0, 1);
        due(false, x, "holds", 0, 7);
        due(true, x, "holds", 0, 6);
    }

    @Sentence(of = 5, words = "Returns the number of holders after the call.")
    static void loseReturnsTheHoldersDownTo0() {
        FeatherShares x = Play.withBirds(0, 0, 0, 0, 0, 0, 0, 0);
        x.split(5, 4, 5);
        for (int bird = 0; bird < 8; bird++) {
            due(7 - bird, x, "lose", bird, 1);
        }
        due(true, x, "exists", 1);
    }

    @Sentence(of = 5, words = "Throws IndexOutOfBoundsException if there is no such bird")
    static void loseRefusesNoBird() {
        inVainForNoBird("lose", TESTED, 4);
        inVain(Play::crowded, INDEX, "lose", 8, 5);
    }

    @Sentence(of = 5, words = "Throws NoSuchElementException if there is no such secret")
    static void loseRefusesNoSecret() {
        inVainForNoSecret("lose", 0, TESTED);
    }

    @Sentence(of = 5, words = "Throws IllegalStateException if the bird does not hold a share of it")
    static void loseRefusesABirdWithoutTheShare() {
        inVain(Play::busy, STATE, "lose", 1, 1);
        inVain(Play::busy, STATE, "lose", 0, 3);
        inVain(Play::crowded, STATE, "lose", 7, 1);
        inVain(SecretBounds::nobodyHolds, STATE, "lose", 2, 3);
    }

    @Sentence(of = 6, words = "Spoils a share.")
    static void spoilChangesOneShareAlone() {
        FeatherShares x = Play.busy();
        due(20, x, "spoil", 0, 1, 28);
        dueLineOf("1/3 0:20 2:48 3:67 4:21", x, 1);
        dueLineOf("3/4 1:49 2:34 3:81", x, 3);
        dueLineOf("4/1 0:5 1:5 2:5 3:5 4:5", x, 4);
        due(12, x, "shareTotal");
        due(3L, x, "lostTotal");
    }

    @Sentence(of = 6, words = "bird: the index of the bird")
    static void spoilTakesTheFirstAndTheLastBird() {
        FeatherShares x = Play.crowded();
        due(10, x, "spoil", 0, 5, 1);
        due(11, x, "spoil", 7, 5, 2);
        due(10, x, "share", 0, 5);
        due(11, x, "share", 7, 5);
    }

    @Sentence(of = 6, words = "secret: the number of the secret")
    static void spoilTakesTheFirstAndTheLastSecret() {
        FeatherShares x = Play.busy();
        due(90, x, "spoil", 0, 1, 1);
        due(6, x, "spoil", 0, 4, 1);
        due(90, x, "share", 0, 1);
        due(6, x, "share", 0, 4);
    }

    @Sentence(of = 6, words = "by: the added number, 1 to 96")
    static void spoilTakesTheNumbers1To96() {
        for (int by = 1; by <= 96; by++) {
            due((5 + by) % 97, Play.busy(), "spoil", 4, 4, by);
        }
    }

    @Sentence(of = 6, words = "Returns the share after the call.")
    static void spoilReturnsSharesFrom0To96() {
        FeatherShares x = Play.busy();
        due(96, x, "spoil", 2, 4, 91);
        due(0, x, "spoil", 2, 4, 1);
        due(0, x, "share", 2, 4);
        due(true, x, "holds", 2, 4);
        due(96, x, "spoil", 2, 4, 96);
        due(95, x, "spoil", 2, 4, 96);
    }

    @Sentence(of = 6, words = "Throws IndexOutOfBoundsException if there is no such bird")
    static void spoilRefusesNoBird() {
        inVainForNoBird("spoil", TESTED, 4, 1);
        inVain(Play::crowded, INDEX, "spoil", 8, 5, 1);
    }

    @Sentence(of = 6, words = "Throws NoSuchElementException if there is no such secret")
    static void spoilRefusesNoSecret() {
        inVainForNoSecret("spoil", 0, TESTED, 1);
    }

    @Sentence(of = 6, words = "Throws IllegalArgumentException if the added number is out of range")
    static void spoilRefusesOtherNumbers() {
        inVainOutside(1, 96, Play::busy, ARGUMENT, "spoil", 0, 1, TESTED);
        inVain(Play::busy, ARGUMENT, "spoil", 0, 1, -1);
        inVain(Play::busy, ARGUMENT, "spoil", 0, 1, 98);
    }

    @Sentence(of = 6, words = "Throws IllegalStateException if the bird does not hold a share of it")
    static void spoilRefusesABirdWithoutTheShare() {
        inVain(Play::busy, STATE, "spoil", 1, 1, 1);
        inVain(Play::busy, STATE, "spoil", 4, 3, 96);
        inVain(Play::crowded, STATE, "spoil", 7, 1, 1);
    }

    @Sentence(of = 7, words = "Issues a share to a bird that holds none")
    static void issueGivesOneShareAlone() {
        FeatherShares x = Play.crowded();
        x.lose(3, 1);
        // The places 1, 3 and 5 with 89, 48 and 21 lie on the polynomial of split(42, 3, 5).
        due(31, x, "issue", 7, 1);
        dueLineOf("1/3 0:89 2:48 4:21 7:31", x, 1);
        due(4, x, "sharesOf", 7);
        due(4L, x, "lostTotal");
    }

    @Sentence(of = 7, words = "the secret is rebuilt at the place of the bird")
    static void issueRebuildsAtEachPlace() {
        int[] shares = {89, 91, 48, 57, 21, 37, 8, 31};
        for (int bird = 0; bird < 8; bird++) {
            FeatherShares x = Play.withBirds(0, 0, 0, 0, 0, 0, 0, 0);
            x.split(42, 3, 5);
            x.lose(bird, 1);
            due(shares[bird], x, "issue", bird, 1);
        }
    }

    @Sentence(of = 7, words = "bird: the index of the bird")
    static void issueTakesTheFirstAndTheLastBird() {
        FeatherShares x = Play.crowded();
        x.lose(0, 5);
        x.lose(7, 5);
        due(9, x, "issue", 0, 5);
        due(9, x, "issue", 7, 5);
        due(8, x, "holders", 5);
    }

    @Sentence(of = 7, words = "secret: the number of the secret")
    static void issueTakesTheFirstAndTheLastSecret() {
        FeatherShares x = Play.crowded();
        x.lose(3, 1);
        due(91, x, "issue", 1, 1);
        x.lose(7, 7);
        due(31, x, "issue", 7, 7);
    }

    @Sentence(of = 7, words = "Returns the share.")
    static void issueReturnsSharesFrom0To96() {
        for (int share = 0; share <= 96; share += 96) {
            FeatherShares x = Play.withBirds(0, 0);
            x.split(share, 1, 0);
            x.lose(1, 1);
            due(share, x, "issue", 1, 1);
            due(share, x, "share", 1, 1);
        }
    }

    @Sentence(of = 7, words = "Throws IndexOutOfBoundsException if there is no such bird")
    static void issueRefusesNoBird() {
        inVainForNoBird("issue", TESTED, 4);
        inVain(Play::crowded, INDEX, "issue", 8, 1);
    }

    @Sentence(of = 7, words = "Throws NoSuchElementException if there is no such secret")
    static void issueRefusesNoSecret() {
        inVainForNoSecret("issue", 0, TESTED);
    }

    @Sentence(of = 7, words = "Throws IllegalStateException if the bird holds a share of it")
    static void issueRefusesABirdWithAShare() {
        inVain(Play::busy, STATE, "issue", 0, 1);
        inVain(Play::busy, STATE, "issue", 3, 3);
        inVain(Play::crowded, STATE, "issue", 7, 7);
        FeatherShares x = Play.busy();
        x.issue(1, 1);
        due(STATE, x, "issue", 1, 1);
    }

    @Sentence(of = 7, words = "Throws UnsupportedOperationException if there are fewer holders than the threshold")
    static void issueRefusesFewerHoldersThanTheThreshold() {
        int[] lastShares = {42, 16, 31, 92};
        for (int threshold = 1; threshold <= 4; threshold++) {
            int need = threshold;
            due(lastShares[need - 1], Play.held(need, need), "issue", 7, 1);
            inVain(() -> Play.held(need, need - 1), UNSUPPORTED, "issue", 7, 1);
        }
        inVain(Play::busy, UNSUPPORTED, "issue", 0, 3);
        inVain(SecretBounds::nobodyHolds, UNSUPPORTED, "issue", 0, 3);
    }

    @Sentence(of = 8, words = "Refreshes a secret.")
    static void refreshChangesTheSharesOfOneSecret() {
        FeatherShares x = Play.busy();
        // Added to the shares of the birds 0 to 4: 10, 30, 60, 3 and 53.
        due(4, x, "refresh", 1, 0);
        dueLineOf("1/3 0:2 2:11 3:70 4:74", x, 1);
        dueLineOf("3/4 1:49 2:34 3:81", x, 3);
        due(12, x, "shareTotal");
    }

    @Sentence(of = 8, words = "secret: the number of the secret")
    static void refreshTakesTheFirstAndTheLastSecret() {
        FeatherShares x = Play.crowded();
        due(4, x, "refresh", 1, 1);
        due(8, x, "refresh", 7, 1);
    }

    @Sentence(of = 8, words = "seed: the seed, 0 to 96")
    static void refreshTakesTheSeeds0To96() {
        for (int seed = 0; seed <= 96; seed++) {
            FeatherShares x = Play.withBirds(0, 0);
            x.split(0, 2, 84);
            due(seed == 92 ? 0 : 2, x, "refresh", 1, seed);
            due((seed + 5) % 97, x, "share", 0, 1);
            due((seed + 5) * 2 % 97, x, "share", 1, 1);
        }
    }

    @Sentence(of = 8, words = "Returns the number of shares that are different after the call.")
    static void refreshReturnsFrom0To8() {
        due(0, Play.busy(), "refresh", 4, 96);
        due(0, nobodyHolds(), "refresh", 3, 96);
        due(3, Play.busy(), "refresh", 3, 96);
        FeatherShares x = Play.withBirds(0, 0, 0, 0, 0, 0, 0, 0);
        x.split(42, 3, 5);
        x.split(42, 2, 5);
        due(8, x, "refresh", 1, 0);
        // With this seed nothing is added at the place 1, with that one at the place 8.
        due(7, x, "refresh", 1, 29);
        due(7, x, "refresh", 1, 43);
        // 92 + 5 is 0.
        due(0, x, "refresh", 2, 92);
        due(8, x, "refresh", 2, 91);
        due(8, x, "refresh", 2, 93);
    }

    @Sentence(of = 8, words = "Throws NoSuchElementException if there is no such secret")
    static void refreshRefusesNoSecret() {
        inVainForNoSecret("refresh", TESTED, 0);
    }

    @Sentence(of = 8, words = "Throws IllegalArgumentException if the seed is out of range")
    static void refreshRefusesOtherSeeds() {
        inVainOutside(0, 96, Play::busy, ARGUMENT, "refresh", 1, TESTED);
        inVainOutside(0, 96, Play::busy, ARGUMENT, "refresh", 4, TESTED);
        inVainOutside(0, 96, SecretBounds::nobodyHolds, ARGUMENT, "refresh", 3, TESTED);
    }

    @Sentence(of = 9, words = "Removes a secret and all its shares.")
    static void forgetRemovesOneSecretAlone() {
        FeatherShares x = Play.busy();
        due(3, x, "forget", 3);
        due(false, x, "exists", 3);
        due(2, x, "secretCount");
        due(9, x, "shareTotal");
        due(2, x, "sharesOf", 2);
        dueLineOf("1/3 0:89 2:48 3:67 4:21", x, 1);
        dueLineOf("4/1 0:5 1:5 2:5 3:5 4:5", x, 4);
        due(3L, x, "lostTotal");
    }

    @Sentence(of = 9, words = "secret: the number of the secret")
    static void forgetTakesTheFirstAndTheLastSecret() {
        FeatherShares x = Play.crowded();
        due(4, x, "forget", 1);
        due(8, x, "forget", 7);
        due(4, x, "secretCount");
        due(3, x, "secretAt", 0);
        due(6, x, "secretAt", 3);
    }

    @Sentence(of = 9, words = "Returns the number of shares that are removed.")
    static void forgetReturnsFrom0To8() {
        due(0, nobodyHolds(), "forget", 3);
        due(8, Play.crowded(), "forget", 6);
        for (int birds = 1; birds <= 8; birds++) {
            FeatherShares x = new FeatherShares();
            for (int bird = 0; bird < birds; bird++) {
                x.addBird(0);
            }
            x.split(3, 1, 0);
            due(birds, x, "forget", 1);
        }
    }

    @Sentence(of = 9, words = "Throws NoSuchElementException if there is no such secret")
    static void forgetRefusesNoSecret() {
        inVainForNoSecret("forget", TESTED);
        FeatherShares x = Play.busy();
        x.forget(4);
        due(ELEMENT, x, "forget", 4);
    }
}
