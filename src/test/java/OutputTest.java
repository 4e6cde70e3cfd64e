import java.util.NoSuchElementException;

/** Promises 40 to 42. */
public final class OutputTest {
    private static final Class<IndexOutOfBoundsException> INDEX = IndexOutOfBoundsException.class;
    private static final Class<NoSuchElementException> ELEMENT = NoSuchElementException.class;

    private static final Check check = new Check("OutputTest");

    public static void main(String[] args) {
        writeSecret();
        writeNests();
        outputAt();
        check.end();
    }

    private static void writeSecret() {
        FeatherShares x = Play.withBirds(0, 1, 2, 3, 0);
        x.split(45, 3, 20);
        x.split(9, 3, 9);
        x.lose(1, 2);
        x.lose(2, 2);
        // Coefficients of the first: 45, 20 + 315 + 13 = 57 and 77.
        check.due("P40 length", 28, () -> x.writeSecret(1));
        check.due("P40 line", "1/3 0:82 1:79 2:36 3:50 4:24", () -> Play.line(x));
        x.lose(0, 2);
        x.lose(3, 2);
        x.spoil(4, 2, 97 - x.share(4, 2));
        check.due("P40 length", 7, () -> x.writeSecret(2));
        check.due("P40 line", "2/3 4:0", () -> Play.line(x));
        x.lose(4, 2);
        check.due("P40 length without holders", 3, () -> x.writeSecret(2));
        check.due("P40 line without holders", "2/3", () -> Play.line(x));
        check.refused("P40 no secret", ELEMENT, () -> x.writeSecret(3));
        check.refused("P40 no secret", ELEMENT, () -> x.writeSecret(0));
        check.due("P40 the line stays", "2/3", () -> Play.line(x));
        for (int i = 3; i < 100; i++) {
            x.split(5, 1, 0);
            x.forget(i);
        }
        x.split(5, 4, 0);
        check.due("P40 a long number", "100/4 0", () -> Play.secretLine(x, 100).substring(0, 7));
        check.due("P40 the length of the line", Play.line(x).length(), () -> x.writeSecret(100));
    }

    private static void writeNests() {
        FeatherShares x = new FeatherShares();
        check.due("P41 length", 8, () -> x.writeNests());
        check.due("P41 line", "[][][][]", () -> Play.line(x));
        FeatherShares y = Play.withBirds(0, 2, 2, 0, 2);
        check.due("P41 length", 13, () -> y.writeNests());
        check.due("P41 line", "[03][][124][]", () -> Play.line(y));
        y.move(3, 3);
        y.move(4, 0);
        check.due("P41 line", "[04][][12][3]", () -> Play.nestsLine(y));
        y.addBird(1);
        y.addBird(3);
        y.addBird(1);
        check.due("P41 length", 16, () -> y.writeNests());
        check.due("P41 line", "[04][57][12][36]", () -> Play.line(y));
    }

    private static void outputAt() {
        FeatherShares x = Play.withBirds(0);
        check.refused("P42 an empty line", INDEX, () -> x.outputAt(0));
        x.writeNests();
        check.due("P42 outputAt(0)", '[', () -> x.outputAt(0));
        check.due("P42 outputAt(1)", '0', () -> x.outputAt(1));
        check.due("P42 outputAt(8)", ']', () -> x.outputAt(8));
        check.refused("P42 outputAt(9)", INDEX, () -> x.outputAt(9));
        check.refused("P42 outputAt(-1)", INDEX, () -> x.outputAt(-1));
        check.refused("P42 outputAt(MAX)", INDEX, () -> x.outputAt(Integer.MAX_VALUE));
        x.split(7, 1, 7);
        x.move(0, 1);
        check.due("P42 the line stays", "[0][][][]", () -> Play.line(x));
        x.writeSecret(1);
        check.due("P42 the line is replaced", "1/1 0:7", () -> Play.line(x));
        check.refused("P42 behind a shorter line", INDEX, () -> x.outputAt(7));
    }
}
