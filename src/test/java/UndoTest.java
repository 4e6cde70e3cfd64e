/** Promises 43 to 45. */
public final class UndoTest {
    private static final Class<IllegalStateException> STATE = IllegalStateException.class;

    private static final Check check = new Check("UndoTest");

    public static void main(String[] args) {
        undoTakesBackEachChange();
        secretsComeBackInTheirOrder();
        undoCounts();
        onlySuccessfulChangesCount();
        changesWithoutDifferenceCount();
        programsAreUndoneWhole();
        undoKeepsTextsAndLine();
        save();
        restore();
        restoreKeepsTextsAndLine();
        check.end();
    }

    /** What the queries tell of the state, and the number that a new secret would get. */
    private static String look(FeatherShares x) {
        StringBuilder look = new StringBuilder(Play.nestsLine(x));
        for (int i = 0; i < x.secretCount(); i++) {
            look.append(' ').append(Play.secretLine(x, x.secretAt(i)));
        }
        return look.append(' ').append(x.lostTotal()).toString();
    }

    private static void undoTakesBackEachChange() {
        FeatherShares x = Play.withBirds(0, 1, 2);
        x.split(42, 2, 5);
        String start = look(x);
        Runnable[] changes = {() -> x.addBird(3), () -> x.move(0, 3), () -> x.split(9, 3, 1), () -> x.lose(0, 1),
            () -> x.spoil(0, 1, 50), () -> x.refresh(1, 8), () -> x.forget(1), () -> Play.run(x, "lose 1 1;bird 0")};
        for (int i = 0; i < changes.length; i++) {
            changes[i].run();
            check.due("P43 change " + i + " is seen", false, () -> start.equals(look(x)));
            check.due("P43 undo of change " + i, 4, () -> x.undo());
            check.due("P43 state before change " + i, start, () -> look(x));
        }
        x.lose(2, 1);
        String lost = look(x);
        x.issue(2, 1);
        check.due("P43 undo of issue", 5, () -> x.undo());
        check.due("P43 state before issue", lost, () -> look(x));
        check.due("P43 undo of lose", 4, () -> x.undo());
        check.due("P43 state before lose", start, () -> look(x));
        check.due("P43 an undone number is free again", 2, () -> x.split(9, 3, 1));
    }

    private static void secretsComeBackInTheirOrder() {
        FeatherShares x = Play.withBirds(0, 1, 2, 3);
        for (int need = 1; need <= 4; need++) {
            x.split(need, need, 5);
        }
        String start = look(x);
        x.save();
        x.forget(1);
        x.forget(3);
        x.split(9, 1, 1);
        x.undo();
        x.undo();
        check.due("P43 undo of the first forget", 5, () -> x.undo());
        check.due("P43 the secrets", start, () -> look(x));
        check.due("P43 a threshold", 1, () -> x.threshold(1));
        x.forget(2);
        x.split(9, 1, 1);
        x.restore();
        check.due("P45 the secrets", start, () -> look(x));
        check.refused("P37 a program that fails", UnsupportedOperationException.class,
                () -> Play.run(x, "forget 1;forget 4;split 9 1 1;forget 1"));
        check.due("P37 the secrets", start, () -> look(x));
    }

    private static void undoCounts() {
        FeatherShares x = new FeatherShares();
        check.refused("P43 new", STATE, () -> x.undo());
        for (int i = 0; i < 8; i++) {
            x.addBird(0);
        }
        x.move(0, 1);
        x.move(0, 2);
        x.move(0, 3);
        for (int left = 7; left >= 0; left--) {
            int wanted = left;
            check.due("P43 undo", wanted, () -> x.undo());
        }
        check.refused("P43 a ninth time", STATE, () -> x.undo());
        check.due("P43 the last eight are undone", "[012][][][]", () -> Play.nestsLine(x).replaceAll("[3-7]", ""));
        check.due("P43 birds before the last eight", 3, () -> x.birdCount());
        x.addBird(1);
        x.addBird(2);
        check.due("P43 new changes", 1, () -> x.undo());
        check.due("P43 new changes", 0, () -> x.undo());
        check.refused("P43 nothing left", STATE, () -> x.undo());
        check.due("P43 birds", 3, () -> x.birdCount());
        for (int i = 0; i < 20; i++) {
            x.move(0, i % 4);
        }
        x.undo();
        x.undo();
        x.move(0, 0);
        check.due("P43 eight at most", 7, () -> Play.undos(x));
        check.due("P43 the nest before", 3, () -> x.nestOf(0));
    }

    private static void onlySuccessfulChangesCount() {
        FeatherShares x = Play.withBirds(0, 1);
        x.split(5, 1, 5);
        check.refused("P43 a change that fails", IllegalArgumentException.class, () -> x.addBird(4));
        check.refused("P43 a change that fails", IllegalArgumentException.class, () -> x.spoil(0, 1, 0));
        check.refused("P43 a program that fails", UnsupportedOperationException.class,
                () -> Play.run(x, "bird 0;bird 4"));
        check.refused("P43 no program", IllegalArgumentException.class, () -> Play.run(x, "bird"));
        x.append('b');
        x.writeNests();
        x.save();
        x.isConsistent();
        check.due("P43 undo", 2, () -> x.undo());
        check.due("P43 the split is undone", 0, () -> x.secretCount());
    }

    private static void changesWithoutDifferenceCount() {
        FeatherShares x = Play.withBirds(2);
        x.split(5, 1, 5);
        x.move(0, 2);
        x.refresh(1, 5);
        check.due("P43 an undone refresh", 3, () -> x.undo());
        check.due("P43 an undone move", 2, () -> x.undo());
        check.due("P43 the secret is there", true, () -> x.exists(1));
        Play.run(x, "move 0 2;refresh 1 5");
        check.due("P43 an undone program", 2, () -> x.undo());
        check.due("P43 an undone split", 1, () -> x.undo());
        check.due("P43 the secret is gone", false, () -> x.exists(1));
    }

    private static void programsAreUndoneWhole() {
        FeatherShares x = Play.withBirds(0);
        Play.run(x, "bird 1;bird 2;split 5 3 5;lose 0 1");
        check.due("P43 undo", 1, () -> x.undo());
        check.due("P43 state", "[0][][][] 0", () -> look(x));
    }

    private static void undoKeepsTextsAndLine() {
        FeatherShares x = Play.withBirds(0);
        check.refused("P43 no program", IllegalArgumentException.class, () -> Play.run(x, "bird"));
        check.refused("P43 a program that fails", UnsupportedOperationException.class,
                () -> Play.run(x, "bird 0;bird 4"));
        x.addBird(1);
        x.writeNests();
        x.append('b');
        check.due("P43 undo", 1, () -> x.undo());
        check.due("P43 the line stays", "[0][1][][]", () -> Play.line(x));
        check.due("P43 the error position stays", 4, () -> x.errorPosition());
        check.due("P43 the failed command stays", 1, () -> x.failedCommand());
        check.due("P43 the text buffer stays", 2, () -> x.append('i'));
    }

    private static void save() {
        FeatherShares x = Play.withBirds(0, 1);
        x.split(5, 2, 5);
        String first = look(x);
        check.done("P44 save", () -> x.save());
        x.lose(0, 1);
        x.forget(1);
        x.addBird(2);
        check.done("P45 restore", () -> x.restore());
        check.due("P45 state", first, () -> look(x));
        x.split(6, 1, 6);
        x.move(0, 3);
        String second = look(x);
        check.done("P44 save again", () -> x.save());
        check.due("P44 save is no changing call", 1, () -> x.undo());
        check.due("P44 undo leaves what is saved", 0, () -> x.undo());
        check.done("P45 restore", () -> x.restore());
        check.due("P44 the state saved last", second, () -> look(x));
        check.due("P44 the next number is saved too", 3, () -> x.split(6, 1, 6));
    }

    private static void restore() {
        FeatherShares x = Play.withBirds(0);
        check.deedRefused("P45 none saved", STATE, () -> x.restore());
        check.due("P45 refused, nothing changes", 0, () -> x.undo());
        check.refused("P45 undo", STATE, () -> x.undo());
        x.save();
        x.addBird(1);
        check.done("P45 restore", () -> x.restore());
        check.due("P45 birdCount", 0, () -> x.birdCount());
        check.refused("P45 no call can be undone", STATE, () -> x.undo());
        x.addBird(3);
        x.addBird(3);
        check.due("P45 later calls can be undone", 1, () -> x.undo());
        check.done("P45 the state stays saved", () -> x.restore());
        check.due("P45 birdCount", 0, () -> x.birdCount());
        check.refused("P45 no call can be undone", STATE, () -> x.undo());
        Play.run(x, "bird 1;bird 2");
        check.done("P45 a third time", () -> x.restore());
        check.due("P45 birdCount", 0, () -> x.birdCount());
        FeatherShares y = Play.withBirds(0);
        y.split(1, 1, 1);
        y.save();
        y.lose(0, 1);
        y.restore();
        check.due("P45 lostTotal", 0L, () -> y.lostTotal());
    }

    private static void restoreKeepsTextsAndLine() {
        FeatherShares x = Play.withBirds(0);
        x.save();
        check.refused("P45 no program", IllegalArgumentException.class, () -> Play.run(x, "bird"));
        check.refused("P45 a program that fails", UnsupportedOperationException.class,
                () -> Play.run(x, "bird 0;bird 4"));
        x.addBird(1);
        x.writeNests();
        x.append('b');
        check.done("P45 restore", () -> x.restore());
        check.due("P45 the line stays", "[0][1][][]", () -> Play.line(x));
        check.due("P45 the error position stays", 4, () -> x.errorPosition());
        check.due("P45 the failed command stays", 1, () -> x.failedCommand());
        check.due("P45 the text buffer stays", 2, () -> x.append('i'));
    }
}
