/** The sentences of the promises 40 to 42. */
final class OutputBounds extends Bounds {
    private static final int LENGTH_OF_BUSY_LINE = "1/3 0:89 2:48 3:67 4:21".length();

    @Sentence(of = 40, words = "Writes a secret to the output line, replacing its content")
    static void writeSecretReplacesALongerAndAShorterLine() {
        FeatherShares x = Play.busy();
        due(18, x, "writeSecret", 3);
        dueLine("3/4 1:49 2:34 3:81", x);
        due(23, x, "writeSecret", 4);
        dueLine("4/1 0:5 1:5 2:5 3:5 4:5", x);
    }

    @Sentence(of = 40, words = "the number, \"/\", the threshold")
    static void writeSecretWritesNumbersOfOneToThreeDigits() {
        FeatherShares x = Play.withBirds(0);
        for (int number = 1; number <= 100; number++) {
            x.split(5, 1, 0);
            if (number == 9 || number == 10 || number >= 99) {
                x.writeSecret(number);
                dueLine(number + "/1 0:5", x);
            }
            x.forget(number);
        }
    }

    @Sentence(of = 40, words = "and for each holder a blank, the index of the bird, \":\" and the share")
    static void writeSecretWritesNoneToEightHolders() {
        String all = " 0:23 1:48 2:12 3:4 4:16 5:40 6:68 7:92";
        int[] ends = {0, 5, 10, 15, 19, 24, 29, 34, 39};
        for (int holders = 0; holders <= 8; holders++) {
            FeatherShares x = Play.held(4, holders);
            String line = "1/4" + all.substring(0, ends[holders]);
            due(line.length(), x, "writeSecret", 1);
            dueLine(line, x);
        }
    }

    @Sentence(of = 40, words = "for example \"2/3 0:45 3:7 4:90\"")
    static void writeSecretWritesTheExample() {
        FeatherShares x = Play.withBirds(0, 0, 0, 0, 0);
        x.split(0, 1, 0);
        x.split(0, 3, 0);
        x.forget(1);
        x.lose(1, 2);
        x.lose(2, 2);
        int[] shares = {45, -1, -1, 7, 90};
        for (int bird = 0; bird < 5; bird++) {
            int by = shares[bird] < 0 ? 0 : Math.floorMod(shares[bird] - x.share(bird, 2), 97);
            if (by != 0) {
                x.spoil(bird, 2, by);
            }
        }
        due(17, x, "writeSecret", 2);
        dueLine("2/3 0:45 3:7 4:90", x);
    }

    @Sentence(of = 40, words = "secret: the number of the secret")
    static void writeSecretTakesTheFirstAndTheLastSecret() {
        FeatherShares x = Play.crowded();
        x.writeSecret(7);
        dueLine("7/3 0:85 1:50 2:1 3:35 4:55 5:61 6:53 7:31", x);
        x.writeSecret(1);
        dueLine("1/3 0:89 2:48 3:67 4:21", x);
    }

    @Sentence(of = 40, words = "Returns the length of the line.")
    static void writeSecretReturnsTheLengthFrom3On() {
        due(3, Play.held(4, 0), "writeSecret", 1);
        due(LENGTH_OF_BUSY_LINE, Play.busy(), "writeSecret", 1);
        due(43, Play.held(1, 8), "writeSecret", 1);
    }

    @Sentence(of = 40, words = "Throws NoSuchElementException if there is no such secret")
    static void writeSecretRefusesNoSecret() {
        inVainForNoSecret("writeSecret", TESTED);
    }

    @Sentence(of = 41, words = "Writes the nests to the output line, replacing its content")
    static void writeNestsReplacesALongerAndAShorterLine() {
        FeatherShares x = Play.busy();
        due(13, x, "writeNests");
        dueLine("[0][12][4][3]", x);
        FeatherShares y = Play.held(4, 0);
        y.writeSecret(1);
        due(16, y, "writeNests");
        dueLine("[0246][][][1357]", y);
    }

    @Sentence(of = 41, words = "for each nest \"[\", the indices of the birds in it in ascending order, and \"]\"")
    static void writeNestsOfNoneAndOfEightBirdsInOneNest() {
        FeatherShares x = new FeatherShares();
        due(8, x, "writeNests");
        dueLine("[][][][]", x);
        FeatherShares first = Play.withBirds(0, 0, 0, 0, 0, 0, 0, 0);
        due(16, first, "writeNests");
        dueLine("[01234567][][][]", first);
        FeatherShares last = Play.withBirds(3, 3, 3, 3, 3, 3, 3, 3);
        last.move(7, 0);
        last.move(0, 1);
        last.move(0, 3);
        due(16, last, "writeNests");
        dueLine("[7][][][0123456]", last);
    }

    @Sentence(of = 41, words = "for example \"[03][][124][]\"")
    static void writeNestsWritesTheExample() {
        FeatherShares x = Play.withBirds(0, 2, 2, 0, 2);
        due(13, x, "writeNests");
        dueLine("[03][][124][]", x);
    }

    @Sentence(of = 41, words = "Returns the length of the line.")
    static void writeNestsReturnsFrom8To16() {
        FeatherShares x = new FeatherShares();
        for (int birds = 0; birds < 8; birds++) {
            due(8 + birds, x, "writeNests");
            x.addBird(birds % 4);
        }
        due(16, x, "writeNests");
    }

    @Sentence(of = 42, words = "the output line, which is initially empty")
    static void theLineIsEmptyAtFirst() {
        inVain(FeatherShares::new, INDEX, "outputAt", 0);
        FeatherShares x = Play.held(4, 8);
        due(INDEX, x, "outputAt", 0);
        x.writeNests();
        due('[', x, "outputAt", 0);
    }

    @Sentence(of = 42, words = "Returns a character of the output line")
    static void theLineStaysWhenTheStateChanges() {
        FeatherShares x = Play.busy();
        x.lose(0, 1);
        x.forget(1);
        x.addBird(0);
        due(UNSUPPORTED, x, "run");
        dueLine("1/3 0:89 2:48 3:67 4:21", x);
    }

    @Sentence(of = 42, words = "index: the index, from 0")
    static void outputAtTakesTheFirstAndTheLastIndex() {
        due('1', Play.busy(), "outputAt", 0);
        due('1', Play.busy(), "outputAt", LENGTH_OF_BUSY_LINE - 1);
        due('2', Play.busy(), "outputAt", LENGTH_OF_BUSY_LINE - 2);
    }

    @Sentence(of = 42, words = "Returns the character.")
    static void outputAtReturnsEachKindOfSign() {
        FeatherShares x = Play.busy();
        String line = "1/3 0:89";
        for (int i = 0; i < line.length(); i++) {
            due(line.charAt(i), x, "outputAt", i);
        }
        x.writeNests();
        due('[', x, "outputAt", 0);
        due('0', x, "outputAt", 1);
        due(']', x, "outputAt", 12);
    }

    @Sentence(of = 42,
            words = "Throws IndexOutOfBoundsException if the index is negative or not less than the length of the line")
    static void outputAtRefusesOtherIndices() {
        inVainOutside(0, LENGTH_OF_BUSY_LINE - 1, Play::busy, INDEX, "outputAt", TESTED);
        FeatherShares x = Play.busy();
        x.writeNests();
        due(INDEX, x, "outputAt", 13);
        due(INDEX, x, "outputAt", LENGTH_OF_BUSY_LINE - 1);
    }
}
