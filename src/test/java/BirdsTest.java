import java.util.NoSuchElementException;

/** Promises 1 to 3 and 10 to 14. */
public final class BirdsTest {
    private static final Class<IllegalArgumentException> ARGUMENT = IllegalArgumentException.class;
    private static final Class<IllegalStateException> STATE = IllegalStateException.class;
    private static final Class<IndexOutOfBoundsException> INDEX = IndexOutOfBoundsException.class;
    private static final Class<NoSuchElementException> ELEMENT = NoSuchElementException.class;

    private static final Check check = new Check("BirdsTest");

    public static void main(String[] args) {
        newObject();
        addBird();
        move();
        birdCountAndNests();
        sharesOf();
        birdAtRank();
        check.end();
    }

    private static void newObject() {
        FeatherShares x = new FeatherShares();
        check.due("P1 birdCount", 0, () -> x.birdCount());
        check.due("P1 secretCount", 0, () -> x.secretCount());
        check.due("P1 shareTotal", 0, () -> x.shareTotal());
        check.due("P1 lostTotal", 0L, () -> x.lostTotal());
        check.refused("P1 undo", STATE, () -> x.undo());
        check.refused("P1 outputAt(0)", INDEX, () -> x.outputAt(0));
        check.due("P1 nests", "[][][][]", () -> Play.nestsLine(x));
        FeatherShares y = Play.withBirds(0, 1);
        check.due("P1 another object", 2, () -> y.birdCount());
        check.due("P1 the first object", 0, () -> x.birdCount());
    }

    private static void addBird() {
        FeatherShares x = new FeatherShares();
        for (int bird = 0; bird < 8; bird++) {
            int wanted = bird;
            check.refused("P2 addBird(-1)", ARGUMENT, () -> x.addBird(-1));
            check.refused("P2 addBird(4)", ARGUMENT, () -> x.addBird(4));
            check.due("P2 addBird", wanted, () -> x.addBird(wanted % 4));
            check.due("P2 birdCount", wanted + 1, () -> x.birdCount());
            check.due("P2 nestOf", wanted % 4, () -> x.nestOf(wanted));
        }
        check.refused("P2 a ninth bird", STATE, () -> x.addBird(0));
        check.refused("P2 a ninth bird in no nest", ARGUMENT, () -> x.addBird(4));
        check.refused("P2 a ninth bird in no nest", ARGUMENT, () -> x.addBird(Integer.MIN_VALUE));
        check.due("P2 birdCount", 8, () -> x.birdCount());

        FeatherShares y = Play.withBirds(0);
        y.split(5, 1, 0);
        y.addBird(1);
        check.due("P2 a new bird's shares", 0, () -> y.sharesOf(1));
        check.due("P2 a new bird holds", false, () -> y.holds(1, 1));
    }

    private static void move() {
        FeatherShares x = Play.withBirds(2, 3);
        check.due("P3 move(0, 1)", 2, () -> x.move(0, 1));
        check.due("P3 nestOf(0)", 1, () -> x.nestOf(0));
        check.due("P3 nestOf(1)", 3, () -> x.nestOf(1));
        check.due("P3 move(0, 1)", 1, () -> x.move(0, 1));
        check.due("P3 move(1, 0)", 3, () -> x.move(1, 0));
        check.due("P3 move(1, 3)", 0, () -> x.move(1, 3));
        check.refused("P3 move(2, 0)", INDEX, () -> x.move(2, 0));
        check.refused("P3 move(-1, 0)", INDEX, () -> x.move(-1, 0));
        check.refused("P3 move(0, 4)", ARGUMENT, () -> x.move(0, 4));
        check.refused("P3 move(0, -1)", ARGUMENT, () -> x.move(0, -1));
        check.refused("P3 move(2, 4)", INDEX, () -> x.move(2, 4));
        check.due("P3 nests", "[][0][][1]", () -> Play.nestsLine(x));
        FeatherShares y = Play.withBirds(0);
        y.split(5, 1, 0);
        y.move(0, 3);
        check.due("P3 a moved bird keeps its share", 5, () -> y.share(0, 1));
    }

    private static void birdCountAndNests() {
        FeatherShares x = Play.withBirds(3, 0, 3, 1, 3);
        check.due("P10 birdCount", 5, () -> x.birdCount());
        check.due("P11 nestOf(0)", 3, () -> x.nestOf(0));
        check.due("P11 nestOf(1)", 0, () -> x.nestOf(1));
        check.due("P11 nestOf(4)", 3, () -> x.nestOf(4));
        check.refused("P11 nestOf(5)", INDEX, () -> x.nestOf(5));
        check.refused("P11 nestOf(-1)", INDEX, () -> x.nestOf(-1));
        check.refused("P11 nestOf(MAX)", INDEX, () -> x.nestOf(Integer.MAX_VALUE));
        check.due("P12 birdsIn(0)", 1, () -> x.birdsIn(0));
        check.due("P12 birdsIn(1)", 1, () -> x.birdsIn(1));
        check.due("P12 birdsIn(2)", 0, () -> x.birdsIn(2));
        check.due("P12 birdsIn(3)", 3, () -> x.birdsIn(3));
        check.refused("P12 birdsIn(4)", ARGUMENT, () -> x.birdsIn(4));
        check.refused("P12 birdsIn(-1)", ARGUMENT, () -> x.birdsIn(-1));
    }

    private static void sharesOf() {
        FeatherShares x = Play.withBirds(0, 0);
        check.due("P13 sharesOf(0)", 0, () -> x.sharesOf(0));
        for (int i = 0; i < 6; i++) {
            x.split(i, 1, 0);
        }
        x.lose(1, 2);
        check.due("P13 sharesOf(0)", 6, () -> x.sharesOf(0));
        check.due("P13 sharesOf(1)", 5, () -> x.sharesOf(1));
        x.forget(3);
        check.due("P13 sharesOf(0) after forget", 5, () -> x.sharesOf(0));
        check.refused("P13 sharesOf(2)", INDEX, () -> x.sharesOf(2));
        check.refused("P13 sharesOf(-1)", INDEX, () -> x.sharesOf(-1));
    }

    private static void birdAtRank() {
        FeatherShares x = Play.withBirds(2, 1, 2, 1, 0);
        checkRanks(x, 4, 1, 3, 0, 2);
        x.split(1, 1, 0);
        x.split(2, 1, 0);
        x.lose(4, 1);
        x.lose(4, 2);
        x.lose(1, 2);
        x.lose(0, 1);
        checkRanks(x, 3, 2, 1, 0, 4);
        check.refused("P14 birdAtRank(5)", ELEMENT, () -> x.birdAtRank(5));
        check.refused("P14 birdAtRank(-1)", ELEMENT, () -> x.birdAtRank(-1));
        check.refused("P14 without birds", ELEMENT, () -> new FeatherShares().birdAtRank(0));
    }

    private static void checkRanks(FeatherShares x, int... birds) {
        for (int rank = 0; rank < birds.length; rank++) {
            int asked = rank;
            check.due("P14 birdAtRank(" + rank + ")", birds[rank], () -> x.birdAtRank(asked));
        }
    }
}
