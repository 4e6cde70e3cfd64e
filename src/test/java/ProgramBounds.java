/** The sentences of the promises 36 to 39. */
final class ProgramBounds extends Bounds {
    /** 60 characters. */
    private static final String FULL_TEXT = "split 10 1 10;split 10 1 1;split 10 1 1;refresh 1 1;lose 0 3";

    private static FeatherShares withText(String text) {
        FeatherShares x = Play.withBirds(0, 1);
        Play.type(x, text);
        return x;
    }

    /** Nothing that undo, save and restore concern is different after the text was run in vain. */
    private static void sameStateAfterRun(String text) {
        Look.Maker empty = () -> {
            FeatherShares x = Play.busy();
            Calls.answer(x, "run");
            x.undo();
            x.addBird(3);
            return x;
        };
        same("the state after \"" + text + "\"", Look.atState(empty), Look.atState(() -> {
            FeatherShares x = empty.make();
            Play.type(x, text);
            Calls.answer(x, "run");
            return x;
        }));
    }

    @Sentence(of = 36, words = "Appends a character to the text buffer.")
    static void appendedCharactersStandInTheirOrder() {
        FeatherShares x = new FeatherShares();
        Play.type(x, "bird ");
        due(6, x, "append", '3');
        due(1, x, "run");
        due(3, x, "nestOf", 0);
    }

    @Sentence(of = 36, words = "character: any character")
    static void appendTakesTheFirstAndTheLastCharacter() {
        FeatherShares x = new FeatherShares();
        int[] characters = {0, 1, '\n', ' ', ';', 127, 128, 255, 256, 0xd800, 0xdfff, 0xffff};
        for (int i = 0; i < characters.length; i++) {
            due(i + 1, x, "append", characters[i]);
        }
        due(ARGUMENT, x, "run");
        due(0, x, "errorPosition");
    }

    @Sentence(of = 36, words = "Returns the number of characters in the buffer after the call.")
    static void appendReturns1To60() {
        FeatherShares x = new FeatherShares();
        for (int length = 1; length <= 60; length++) {
            due(length, x, "append", 'b');
        }
        due(ARGUMENT, x, "run");
        due(1, x, "append", 'b');
    }

    @Sentence(of = 36, words = "Throws IllegalStateException if the buffer contains 60 characters")
    static void appendRefusesThe61stCharacter() {
        due(60, withText(FULL_TEXT.substring(0, 59)), "append", '3');
        inVain(() -> withText(FULL_TEXT), STATE, "append", '3');
        inVain(() -> withText(FULL_TEXT), STATE, "append", ';');
        inVain(() -> withText(FULL_TEXT), STATE, "append", 0);
        FeatherShares x = withText(FULL_TEXT);
        due(STATE, x, "append", '3');
        due(5, x, "run");
        due(1, x, "append", '3');
    }

    @Sentence(of = 37, words = "Runs the text buffer as a program.")
    static void aProgramOfAllSixtyCharactersRuns() {
        FeatherShares x = withText(FULL_TEXT);
        due(5, x, "run");
        due(3, x, "secretCount");
        due(1, x, "holders", 3);
    }

    @Sentence(of = 37, words = "The commands are carried out in order.")
    static void laterCommandsSeeEarlierOnes() {
        FeatherShares x = new FeatherShares();
        dueOfText(4, x, "bird 1;move 0 2;split 5 1 0;lose 0 1");
        due(2, x, "nestOf", 0);
        due(0, x, "holders", 1);
        dueOfText(2, x, "move 0 3;move 0 1");
        due(1, x, "nestOf", 0);
        dueOfText(2, x, "move 0 1;move 0 3");
        due(3, x, "nestOf", 0);
    }

    @Sentence(of = 37, words = "If one of them fails, none of them has an effect.")
    static void aProgramWithAFailureChangesNoState() {
        sameStateAfterRun("bird 4");
        sameStateAfterRun("bird 0;bird 4");
        sameStateAfterRun("bird 4;bird 0");
        sameStateAfterRun("move 0 3;split 7 2 7;bird 9");
        sameStateAfterRun("spoil 0 1 9;lose 0 1;spoil 0 1 9");
        sameStateAfterRun("refresh 1 9;issue 1 1;issue 1 1");
        sameStateAfterRun("forget 1;forget 3;forget 4;split 1 1 1;forget 4");
    }

    @Sentence(of = 37, words = "The buffer is empty afterwards in every case.")
    static void theBufferIsEmptyAfterEachRun() {
        FeatherShares x = new FeatherShares();
        dueOfText(1, x, "bird 1");
        due(1, x, "append", 'b');
        due(ARGUMENT, x, "run");
        due(1, x, "append", 'b');
        due(ARGUMENT, x, "run");
        dueOfText(UNSUPPORTED, x, "bird 4");
        due(1, x, "append", 'b');
    }

    @Sentence(of = 37, words = "Returns the number of commands.")
    static void runReturns1To8() {
        StringBuilder text = new StringBuilder("bird 0");
        for (int commands = 1; commands <= 8; commands++) {
            FeatherShares x = new FeatherShares();
            dueOfText(commands, x, text.toString());
            due(commands, x, "birdCount");
            text.append(";bird 0");
        }
    }

    @Sentence(of = 37,
            words = "Throws IllegalArgumentException if the text is not a program; the error position is stored")
    static void noProgramIsRefused() {
        String[] texts = {"", "b", "bird", "bird 0;", "bird 00", "bird 0;bird", "move 0 0 ", "x"};
        int[] positions = {0, 1, 4, 7, 6, 11, 8, 0};
        for (int i = 0; i < texts.length; i++) {
            FeatherShares x = Play.withBirds(0);
            dueOfText(ARGUMENT, x, texts[i]);
            due(positions[i], x, "errorPosition");
            due(ELEMENT, x, "failedCommand");
            due(1, x, "birdCount");
            sameStateAfterRun(texts[i]);
        }
    }

    @Sentence(of = 37,
            words = "Throws UnsupportedOperationException if a command fails, that is, if its method would "
                + "throw an exception")
    static void eachCommandFailsWhereItsMethodThrows() {
        String[] texts = {"bird 4", "bird 9", "move 6 0", "move 0 4", "split 97 1 0", "split 0 0 0", "split 0 5 0",
            "split 0 1 97", "lose 6 1", "lose 0 0", "lose 0 2", "lose 0 5", "lose 1 1", "spoil 6 1 1", "spoil 0 2 1",
            "spoil 0 1 0", "spoil 0 1 97", "spoil 1 1 1", "issue 6 1", "issue 0 2", "issue 0 1", "issue 0 3",
            "refresh 2 0", "refresh 1 97", "forget 0", "forget 2", "forget 5", "forget 99"};
        for (String text : texts) {
            FeatherShares x = Play.busy();
            due(2, x, "run");
            dueOfText(UNSUPPORTED, x, text);
            due(0, x, "failedCommand");
            due(4, x, "errorPosition");
        }
        FeatherShares crowded = Play.crowded();
        due(UNSUPPORTED, crowded, "run");
        dueOfText(UNSUPPORTED, crowded, "bird 0");
        dueOfText(UNSUPPORTED, crowded, "split 0 1 0");
        dueOfText(UNSUPPORTED, new FeatherShares(), "split 0 1 0");
    }

    @Sentence(of = 37, words = "the index of the command, from 0, is stored as the failed command")
    static void theFirstAndTheLastOfEightCommandsFail() {
        for (int failing = 0; failing < 8; failing++) {
            StringBuilder text = new StringBuilder();
            for (int i = 0; i < 8; i++) {
                text.append(i == 0 ? "" : ";").append(i == failing ? "bird 4" : "bird 3");
            }
            FeatherShares x = new FeatherShares();
            dueOfText(UNSUPPORTED, x, text.toString());
            due(failing, x, "failedCommand");
            due(0, x, "birdCount");
        }
    }

    @Sentence(of = 38, words = "Returns the error position that was stored last.")
    static void aLaterErrorPositionReplacesAnEarlierOne() {
        FeatherShares x = Play.busy();
        due(4, x, "errorPosition");
        due(2, x, "run");
        due(4, x, "errorPosition");
        due(ARGUMENT, x, "run");
        due(0, x, "errorPosition");
        dueOfText(ARGUMENT, x, "bx");
        due(1, x, "errorPosition");
        dueOfText(UNSUPPORTED, x, "bird 4");
        due(1, x, "errorPosition");
    }

    @Sentence(of = 38, words = "Returns the error position.")
    static void errorPositionsGoFrom0To60() {
        for (int position = 0; position < 60; position++) {
            FeatherShares x = withText(FULL_TEXT.substring(0, position) + "x");
            due(ARGUMENT, x, "run");
            due(position, x, "errorPosition");
        }
        FeatherShares x = withText(FULL_TEXT.replace("lose 0 3", "lose 0  "));
        due(ARGUMENT, x, "run");
        due(59, x, "errorPosition");
        FeatherShares prefix = withText("split 10 1 10;split 10 1 10;split 10 1 10;refresh 1 1;lose 0");
        due(STATE, prefix, "append", 'x');
        due(ARGUMENT, prefix, "run");
        due(60, prefix, "errorPosition");
    }

    @Sentence(of = 38, words = "Throws NoSuchElementException if none was stored")
    static void noErrorPositionIsStoredAtFirst() {
        inVain(FeatherShares::new, ELEMENT, "errorPosition");
        inVain(() -> {
            FeatherShares x = withText("bird 1");
            x.run();
            Play.type(x, "bird 4");
            Calls.answer(x, "run");
            return x;
        }, ELEMENT, "errorPosition");
    }

    @Sentence(of = 39, words = "Returns the failed command that was stored last.")
    static void aLaterFailedCommandReplacesAnEarlierOne() {
        FeatherShares x = Play.busy();
        due(1, x, "failedCommand");
        due(2, x, "run");
        due(1, x, "failedCommand");
        dueOfText(UNSUPPORTED, x, "bird 4");
        due(0, x, "failedCommand");
        dueOfText(UNSUPPORTED, x, "bird 0;move 0 0;bird 4");
        due(2, x, "failedCommand");
        dueOfText(ARGUMENT, x, "bird");
        due(2, x, "failedCommand");
    }

    @Sentence(of = 39, words = "Returns the index of the command.")
    static void failedCommandGoesFrom0To7() {
        FeatherShares x = new FeatherShares();
        dueOfText(UNSUPPORTED, x, "bird 4;bird 0");
        due(0, x, "failedCommand");
        dueOfText(UNSUPPORTED, x, "bird 0;bird 0;bird 0;bird 0;bird 0;bird 0;bird 0;bird 4");
        due(7, x, "failedCommand");
    }

    @Sentence(of = 39, words = "Throws NoSuchElementException if none was stored")
    static void noFailedCommandIsStoredAtFirst() {
        inVain(FeatherShares::new, ELEMENT, "failedCommand");
        inVain(() -> {
            FeatherShares x = withText("bird 1");
            x.run();
            Play.type(x, "bird");
            Calls.answer(x, "run");
            return x;
        }, ELEMENT, "failedCommand");
    }
}
