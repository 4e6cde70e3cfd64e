import java.util.NoSuchElementException;

/** Promises 36 to 39. */
public final class ProgramsTest {
    private static final Class<IllegalArgumentException> ARGUMENT = IllegalArgumentException.class;
    private static final Class<IllegalStateException> STATE = IllegalStateException.class;
    private static final Class<NoSuchElementException> ELEMENT = NoSuchElementException.class;
    private static final Class<UnsupportedOperationException> UNSUPPORTED = UnsupportedOperationException.class;

    private static final Check check = new Check("ProgramsTest");

    public static void main(String[] args) {
        append();
        everyCommandRuns();
        numbersHaveOneOrTwoDigits();
        errorPositions();
        prefixesOfPrograms();
        storedPositions();
        failedPrograms();
        everyCommandFails();
        longPrograms();
        check.end();
    }

    private static void append() {
        FeatherShares x = new FeatherShares();
        for (int i = 1; i <= 60; i++) {
            int wanted = i;
            check.due("P36 append", wanted, () -> x.append((char) (wanted * 1000)));
        }
        check.refused("P36 a full buffer", STATE, () -> x.append('b'));
        check.refused("P36 a full buffer", STATE, () -> x.append(' '));
        check.refused("P37 no program", ARGUMENT, () -> x.run());
        check.due("P36 an empty buffer", 1, () -> x.append('b'));
        check.due("P36 the next", 2, () -> x.append((char) 0));
    }

    private static void everyCommandRuns() {
        FeatherShares x = new FeatherShares();
        check.due("P37 bird", 3, () -> Play.run(x, "bird 1;bird 0;bird 1"));
        check.due("P37 nests", "[1][02][][]", () -> Play.nestsLine(x));
        check.due("P37 move", 1, () -> Play.run(x, "move 2 3"));
        check.due("P37 nests", "[1][0][][2]", () -> Play.nestsLine(x));
        check.due("P37 split", 2, () -> Play.run(x, "split 1 2 3;split 42 3 5"));
        check.due("P37 shares", "1/2 0:24 1:47 2:70", () -> Play.secretLine(x, 1));
        check.due("P37 shares", "2/3 0:89 1:91 2:48", () -> Play.secretLine(x, 2));
        check.due("P37 lose", 1, () -> Play.run(x, "lose 0 1"));
        check.due("P37 shares", "1/2 1:47 2:70", () -> Play.secretLine(x, 1));
        check.due("P37 spoil", 1, () -> Play.run(x, "spoil 2 1 27"));
        check.due("P37 shares", "1/2 1:47 2:0", () -> Play.secretLine(x, 1));
        check.due("P37 issue", 1, () -> Play.run(x, "issue 0 1"));
        check.due("P37 shares", "1/2 0:94 1:47 2:0", () -> Play.secretLine(x, 1));
        check.due("P37 refresh", 1, () -> Play.run(x, "refresh 2 7"));
        check.due("P37 shares", "2/3 0:23 1:94 2:61", () -> Play.secretLine(x, 2));
        check.due("P37 forget", 1, () -> Play.run(x, "forget 1"));
        check.due("P37 exists(1)", false, () -> x.exists(1));
        check.due("P37 exists(2)", true, () -> x.exists(2));
        check.due("P37 later commands see earlier ones", 3, () -> Play.run(x, "split 9 1 0;lose 0 3;issue 0 3"));
        check.due("P37 shares", "3/1 0:9 1:9 2:9", () -> Play.secretLine(x, 3));
        check.due("P37 the buffer is empty", 1, () -> x.append('b'));
    }

    private static void numbersHaveOneOrTwoDigits() {
        FeatherShares x = Play.withBirds(0, 0);
        check.due("P37 zeros before", 1, () -> Play.run(x, "split 05 1 00"));
        check.due("P37 share", 5, () -> x.share(0, 1));
        check.due("P37 a secret as 01", 1, () -> Play.run(x, "spoil 1 01 09"));
        check.due("P37 share", 14, () -> x.share(1, 1));
        check.due("P37 96", 1, () -> Play.run(x, "split 96 2 96"));
        check.refused("P37 97", UNSUPPORTED, () -> Play.run(x, "split 97 2 96"));
        for (int i = 0; i < 12; i++) {
            x.split(i, 1, 0);
            x.forget(3 + i);
        }
        x.split(33, 1, 0);
        check.due("P37 a secret of two digits", 1, () -> Play.run(x, "lose 0 15"));
        check.due("P37 its holders", 1, () -> x.holders(15));
    }

    private static void errorPositions() {
        checkError("", 0);
        checkError(" ", 0);
        checkError("x", 0);
        checkError("Bird 1", 0);
        checkError(";bird 1", 0);
        checkError("bird 1;", 7);
        checkError("bird 1; bird 1", 7);
        checkError("bird 1;;", 7);
        checkError("bird 1 ", 6);
        checkError("bird 12", 6);
        checkError("bird  1", 5);
        checkError("bird\t1", 4);
        checkError("bird a", 5);
        checkError("bird -1", 5);
        checkError("bird #", 5);
        checkError("birds 1", 4);
        checkError("bind 1", 2);
        checkError("move 1 2 3", 8);
        checkError("move 10 2", 6);
        checkError("move 1", 6);
        checkError("split 123 2 3", 8);
        checkError("split 1 12 3", 9);
        checkError("split 1 2", 9);
        checkError("split 1 2 345", 12);
        checkError("split 1 2 34;", 13);
        checkError("sp", 2);
        checkError("spx", 2);
        checkError("spo", 3);
        checkError("spl", 3);
        checkError("splot", 3);
        checkError("spoit", 4);
        checkError("split %", 6);
        checkError("lose 1 2 3", 8);
        checkError("lose 12", 6);
        checkError("spoil 1 2 3 4", 11);
        checkError("issue 1;", 7);
        checkError("issue 1 2 ", 9);
        checkError("refresh 11 22 ", 13);
        checkError("refresh 111", 10);
        checkError("refresh 1;", 9);
        checkError("forget", 6);
        checkError("forget ", 7);
        checkError("forget 1 2", 8);
        checkError("forget 123", 9);
        checkError("bird 1;bird 2;bird 3:", 20);
        checkError("bird 1;bord", 8);
        checkError("bird " + (char) 0x661, 5);
        checkError("bird " + (char) 0xff11, 5);
        checkError("bird 1" + (char) 0, 6);
        checkError((char) 0xffff + "bird 1", 0);
    }

    private static void checkError(String text, int position) {
        FeatherShares x = Play.withBirds(0);
        check.refused("P37 " + text, ARGUMENT, () -> Play.run(x, text));
        check.due("P38 " + text, position, () -> x.errorPosition());
        check.refused("P39 " + text, ELEMENT, () -> x.failedCommand());
        check.due("P37 nothing changes", 1, () -> x.birdCount());
        check.due("P37 the buffer is empty", 1, () -> x.append('b'));
    }

    private static void prefixesOfPrograms() {
        String text = "bird 1;move 0 2;split 7 1 33;spoil 0 1 5;refresh 1 2";
        for (int length = 0; length < text.length(); length++) {
            String part = text.substring(0, length);
            if (!isWhole(part)) {
                checkError(part, length);
            }
        }
        FeatherShares x = new FeatherShares();
        check.due("P37 the whole text", 5, () -> Play.run(x, text));
        check.due("P37 its share", 12, () -> x.share(0, 1));
        check.due("P37 its nests", "[][][0][]", () -> Play.nestsLine(x));
    }

    private static boolean isWhole(String text) {
        String command = "(bird \\d|move \\d \\d|split \\d\\d? \\d \\d\\d?|spoil \\d \\d\\d? \\d\\d?|refresh \\d\\d? \\d\\d?)";
        return text.matches(command + "(;" + command + ")*");
    }

    private static void storedPositions() {
        FeatherShares x = new FeatherShares();
        check.refused("P38 none stored", ELEMENT, () -> x.errorPosition());
        check.refused("P39 none stored", ELEMENT, () -> x.failedCommand());
        check.refused("P37 bird 9", UNSUPPORTED, () -> Play.run(x, "bird 9"));
        check.refused("P38 still none stored", ELEMENT, () -> x.errorPosition());
        check.due("P39 failedCommand", 0, () -> x.failedCommand());
        check.refused("P37 bird", ARGUMENT, () -> Play.run(x, "bird"));
        check.due("P38 errorPosition", 4, () -> x.errorPosition());
        check.due("P39 failedCommand stays", 0, () -> x.failedCommand());
        check.due("P37 bird 1", 1, () -> Play.run(x, "bird 1"));
        check.due("P38 errorPosition stays", 4, () -> x.errorPosition());
        check.due("P39 failedCommand stays", 0, () -> x.failedCommand());
        check.refused("P37 bird 1;move 2 2", UNSUPPORTED, () -> Play.run(x, "bird 1;move 2 2"));
        check.due("P38 errorPosition stays", 4, () -> x.errorPosition());
        check.due("P39 failedCommand", 1, () -> x.failedCommand());
        check.refused("P37 the empty text", ARGUMENT, () -> x.run());
        check.due("P38 errorPosition", 0, () -> x.errorPosition());
    }

    private static void failedPrograms() {
        FeatherShares x = Play.withBirds(0, 1);
        x.split(5, 2, 6);
        String before = Play.secretLine(x, 1);
        check.refused("P37 a program that fails", UNSUPPORTED,
                () -> Play.run(x, "move 0 3;bird 2;lose 1 1;split 9 1 1;issue 1 1"));
        check.due("P39 failedCommand", 4, () -> x.failedCommand());
        check.due("P37 the birds", "[0][1][][]", () -> Play.nestsLine(x));
        check.due("P37 the shares", before, () -> Play.secretLine(x, 1));
        check.due("P37 the secrets", 1, () -> x.secretCount());
        check.due("P37 lostTotal", 0L, () -> x.lostTotal());
        check.due("P37 the buffer is empty", 1, () -> x.append('b'));
        check.refused("P37 no program", ARGUMENT, () -> x.run());
        check.due("P37 the next number", 2, () -> x.split(9, 1, 1));
        check.due("P37 a failed program can't be undone", 4, () -> Play.undos(x));
    }

    private static void everyCommandFails() {
        FeatherShares x = Play.withBirds(0, 1);
        x.split(5, 2, 6);
        x.lose(1, 1);
        String[] failing = {"bird 4", "move 2 0", "move 0 4", "split 97 1 1", "split 1 0 1", "split 1 5 1",
            "split 1 1 97", "split 1 3 1", "lose 2 1", "lose 0 2", "lose 1 1", "spoil 2 1 1", "spoil 0 2 1",
            "spoil 0 1 0", "spoil 0 1 97", "spoil 1 1 1", "issue 2 1", "issue 0 2", "issue 0 1", "issue 1 1",
            "refresh 2 1", "refresh 1 97", "forget 2", "forget 0"};
        for (String command : failing) {
            check.refused("P37 " + command, UNSUPPORTED, () -> Play.run(x, "move 0 3;" + command));
            check.due("P39 " + command, 1, () -> x.failedCommand());
            check.due("P37 the birds stay", "[0][1][][]", () -> Play.nestsLine(x));
            check.due("P37 the shares stay", 1, () -> x.shareTotal());
        }
    }

    private static void longPrograms() {
        FeatherShares x = new FeatherShares();
        check.due("P37 eight commands", 8,
                () -> Play.run(x, "bird 0;bird 1;bird 2;bird 3;bird 0;bird 1;bird 2;bird 3"));
        check.refused("P37 a ninth bird", UNSUPPORTED, () -> Play.run(x, "move 0 1;bird 0"));
        check.due("P39 the ninth bird", 1, () -> x.failedCommand());
        check.refused("P37 a prefix that fills the buffer", ARGUMENT,
                () -> Play.run(x, "split 10 1 10;split 10 1 10;split 10 1 10;refresh 1 1;lose 0"));
        check.due("P38 the end of a full buffer", 60, () -> x.errorPosition());
        check.due("P37 a program that fills the buffer", 5,
                () -> Play.run(x, "split 10 1 10;split 10 1 1;split 10 1 1;refresh 1 1;lose 0 3"));
        check.due("P37 its last command", 7, () -> x.holders(3));
    }
}
