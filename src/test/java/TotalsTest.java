/** Promises 31 to 35. */
public final class TotalsTest {
    private static final Class<ArithmeticException> ARITHMETIC = ArithmeticException.class;

    private static final Check check = new Check("TotalsTest");

    public static void main(String[] args) {
        shareTotalAndMean();
        lostTotal();
        rebuildableShare();
        isConsistent();
        check.end();
    }

    private static void shareTotalAndMean() {
        FeatherShares x = new FeatherShares();
        check.due("P31 shareTotal", 0, () -> x.shareTotal());
        check.refused("P33 without birds", ARITHMETIC, () -> x.meanShares());
        x.addBird(0);
        check.due("P33 one bird", 0.0, () -> x.meanShares());
        x.addBird(1);
        x.addBird(2);
        check.due("P33 without shares", 0.0, () -> x.meanShares());
        x.split(1, 1, 1);
        x.split(2, 2, 2);
        check.due("P31 shareTotal", 6, () -> x.shareTotal());
        check.due("P33 meanShares", 2.0, () -> x.meanShares());
        x.lose(0, 1);
        check.due("P31 shareTotal", 5, () -> x.shareTotal());
        check.due("P33 meanShares", 5.0 / 3.0, () -> x.meanShares());
        x.issue(0, 1);
        x.addBird(3);
        check.due("P31 shareTotal", 6, () -> x.shareTotal());
        check.due("P33 meanShares", 1.5, () -> x.meanShares());
        x.forget(2);
        check.due("P31 shareTotal", 3, () -> x.shareTotal());
        check.due("P33 meanShares", 0.75, () -> x.meanShares());
    }

    private static void lostTotal() {
        FeatherShares x = Play.withBirds(0, 1);
        x.split(1, 1, 1);
        check.due("P32 lostTotal", 0L, () -> x.lostTotal());
        x.lose(0, 1);
        check.refused("P32 a lose that fails", IllegalStateException.class, () -> x.lose(0, 1));
        check.due("P32 lostTotal", 1L, () -> x.lostTotal());
        x.issue(0, 1);
        check.due("P32 after issue", 1L, () -> x.lostTotal());
        Play.run(x, "lose 0 1;lose 1 1");
        check.due("P32 after a program", 3L, () -> x.lostTotal());
        x.forget(1);
        check.due("P32 after forget", 3L, () -> x.lostTotal());
        x.split(1, 1, 1);
        check.refused("P32 a program that fails", UnsupportedOperationException.class,
                () -> Play.run(x, "lose 0 2;lose 0 2"));
        check.due("P32 after a failed program", 3L, () -> x.lostTotal());
    }

    private static void rebuildableShare() {
        FeatherShares x = Play.withBirds(0, 1);
        check.refused("P34 without secrets", ARITHMETIC, () -> x.rebuildableShare());
        x.split(1, 1, 1);
        check.due("P34 one secret", 1f, () -> x.rebuildableShare());
        x.split(2, 2, 2);
        x.split(3, 2, 3);
        check.due("P34 all", 1f, () -> x.rebuildableShare());
        x.lose(0, 2);
        check.due("P34 two of three", 2f / 3f, () -> x.rebuildableShare());
        x.lose(0, 3);
        x.lose(0, 1);
        check.due("P34 one of three", 1f / 3f, () -> x.rebuildableShare());
        x.lose(1, 1);
        check.due("P34 none", 0f, () -> x.rebuildableShare());
        x.forget(1);
        x.forget(2);
        x.forget(3);
        check.refused("P34 without secrets again", ARITHMETIC, () -> x.rebuildableShare());
    }

    private static void isConsistent() {
        FeatherShares x = new FeatherShares();
        check.due("P35 new", true, () -> x.isConsistent());
        for (int nest = 0; nest < 8; nest++) {
            x.addBird(nest % 4);
        }
        for (int need = 1; need <= 4; need++) {
            x.split(need * 20, need, need);
        }
        check.due("P35 split", true, () -> x.isConsistent());
        x.spoil(0, 4, 5);
        x.spoil(7, 3, 6);
        x.spoil(2, 1, 7);
        check.due("P35 spoilt", true, () -> x.isConsistent());
        for (int bird = 0; bird < 6; bird++) {
            x.lose(bird, 4);
            x.lose(7 - bird, 2);
        }
        check.due("P35 lost", true, () -> x.isConsistent());
    }
}
