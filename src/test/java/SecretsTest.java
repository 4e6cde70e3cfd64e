import java.util.NoSuchElementException;

/** Promises 4 to 9 and 15 to 23. */
public final class SecretsTest {
    private static final Class<IllegalArgumentException> ARGUMENT = IllegalArgumentException.class;
    private static final Class<IllegalStateException> STATE = IllegalStateException.class;
    private static final Class<IndexOutOfBoundsException> INDEX = IndexOutOfBoundsException.class;
    private static final Class<NoSuchElementException> ELEMENT = NoSuchElementException.class;
    private static final Class<UnsupportedOperationException> UNSUPPORTED = UnsupportedOperationException.class;

    private static final Check check = new Check("SecretsTest");

    public static void main(String[] args) {
        splitDealsTheValuesOfThePolynomial();
        splitRefuses();
        lose();
        spoil();
        issue();
        issueRefuses();
        refresh();
        forget();
        numbersAndPositions();
        threshold();
        holdsAndShare();
        holdersAndSpareShares();
        canNestRebuild();
        check.end();
    }

    private static void splitDealsTheValuesOfThePolynomial() {
        FeatherShares x = Play.withBirds(0, 0, 0, 0, 0, 0, 0, 0);
        check.due("P4 split(42, 3, 5)", 1, () -> x.split(42, 3, 5));
        check.due("P4 shares", "1/3 0:89 1:91 2:48 3:57 4:21 5:37 6:8 7:31", () -> Play.secretLine(x, 1));
        check.due("P4 split(10, 1, 96)", 2, () -> x.split(10, 1, 96));
        check.due("P4 shares", "2/1 0:10 1:10 2:10 3:10 4:10 5:10 6:10 7:10", () -> Play.secretLine(x, 2));
        // Coefficients: 1, then 3 + 7 + 13 = 23.
        check.due("P4 split(1, 2, 3)", 3, () -> x.split(1, 2, 3));
        check.due("P4 shares", "3/2 0:24 1:47 2:70 3:93 4:19 5:42 6:65 7:88", () -> Play.secretLine(x, 3));
        // Coefficients: 0, then 96 + 13 = 12, 192 + 13 = 11 and 288 + 13 = 10.
        check.due("P4 split(0, 4, 96)", 4, () -> x.split(0, 4, 96));
        check.due("P4 share(0, 4)", 33, () -> x.share(0, 4));
        check.due("P4 share(1, 4)", (24 + 44 + 80) % 97, () -> x.share(1, 4));
        check.due("P4 share(7, 4)", (96 + 704 + 5120) % 97, () -> x.share(7, 4));
        check.due("P4 split(96, 4, 0)", 5, () -> x.split(96, 4, 0));
        check.due("P4 split(0, 1, 0)", 6, () -> x.split(0, 1, 0));
        check.due("P4 secretCount", 6, () -> x.secretCount());
    }

    private static void splitRefuses() {
        FeatherShares none = new FeatherShares();
        check.refused("P4 without birds", STATE, () -> none.split(0, 1, 0));
        check.refused("P4 without birds, argument first", ARGUMENT, () -> none.split(0, 0, 0));
        FeatherShares x = Play.withBirds(0, 1);
        check.refused("P4 value -1", ARGUMENT, () -> x.split(-1, 1, 0));
        check.refused("P4 value 97", ARGUMENT, () -> x.split(97, 1, 0));
        check.refused("P4 threshold 0", ARGUMENT, () -> x.split(0, 0, 0));
        check.refused("P4 threshold 5", ARGUMENT, () -> x.split(0, 5, 0));
        check.refused("P4 seed -1", ARGUMENT, () -> x.split(0, 1, -1));
        check.refused("P4 seed 97", ARGUMENT, () -> x.split(0, 1, 97));
        check.refused("P4 fewer birds", STATE, () -> x.split(0, 3, 0));
        check.refused("P4 fewer birds, argument first", ARGUMENT, () -> x.split(0, 3, 97));
        check.due("P4 as many birds", 1, () -> x.split(0, 2, 0));
        for (int number = 2; number <= 6; number++) {
            int wanted = number;
            check.due("P4 split", wanted, () -> x.split(96, 1, 96));
        }
        check.refused("P4 a seventh secret", STATE, () -> x.split(0, 1, 0));
        check.refused("P4 a seventh secret, argument first", ARGUMENT, () -> x.split(97, 1, 0));
        check.due("P4 secretCount", 6, () -> x.secretCount());
    }

    private static void lose() {
        FeatherShares x = Play.withBirds(0, 0, 0);
        x.split(8, 2, 1);
        x.split(9, 1, 1);
        check.due("P5 lose(1, 1)", 2, () -> x.lose(1, 1));
        check.due("P5 holds(1, 1)", false, () -> x.holds(1, 1));
        check.due("P5 holds(0, 1)", true, () -> x.holds(0, 1));
        check.due("P5 holds(1, 2)", true, () -> x.holds(1, 2));
        check.refused("P5 lost already", STATE, () -> x.lose(1, 1));
        check.due("P5 lose(0, 1)", 1, () -> x.lose(0, 1));
        check.due("P5 lose(2, 1)", 0, () -> x.lose(2, 1));
        check.due("P5 a secret without holders exists", true, () -> x.exists(1));
        check.refused("P5 lose(3, 1)", INDEX, () -> x.lose(3, 1));
        check.refused("P5 lose(-1, 9)", INDEX, () -> x.lose(-1, 9));
        check.refused("P5 lose(0, 3)", ELEMENT, () -> x.lose(0, 3));
        check.refused("P5 lose(0, 0)", ELEMENT, () -> x.lose(0, 0));
        check.due("P5 lostTotal", 3L, () -> x.lostTotal());
    }

    private static void spoil() {
        FeatherShares x = Play.withBirds(0, 0);
        x.split(50, 1, 0);
        check.due("P6 spoil by 1", 51, () -> x.spoil(0, 1, 1));
        check.due("P6 spoil by 96", 50, () -> x.spoil(0, 1, 96));
        check.due("P6 spoil by 47", 0, () -> x.spoil(0, 1, 47));
        check.due("P6 share(0, 1)", 0, () -> x.share(0, 1));
        check.due("P6 share(1, 1)", 50, () -> x.share(1, 1));
        check.due("P6 a share of 0 is held", true, () -> x.holds(0, 1));
        check.refused("P6 by 0", ARGUMENT, () -> x.spoil(0, 1, 0));
        check.refused("P6 by 97", ARGUMENT, () -> x.spoil(0, 1, 97));
        check.refused("P6 by -1", ARGUMENT, () -> x.spoil(0, 1, -1));
        check.refused("P6 no bird", INDEX, () -> x.spoil(2, 9, 0));
        check.refused("P6 no bird", INDEX, () -> x.spoil(-1, 1, 1));
        check.refused("P6 no secret", ELEMENT, () -> x.spoil(0, 2, 0));
        x.lose(1, 1);
        check.refused("P6 not held", STATE, () -> x.spoil(1, 1, 1));
        check.refused("P6 not held, argument first", ARGUMENT, () -> x.spoil(1, 1, 97));
        check.due("P6 still not held", false, () -> x.holds(1, 1));
    }

    private static void issue() {
        FeatherShares x = Play.withBirds(0, 0, 0, 0, 0);
        x.split(42, 3, 5);
        x.addBird(0);
        check.due("P7 to a new bird", 37, () -> x.issue(5, 1));
        check.due("P7 share(5, 1)", 37, () -> x.share(5, 1));
        x.lose(0, 1);
        check.due("P7 to a leading bird", 89, () -> x.issue(0, 1));
        x.lose(3, 1);
        x.spoil(4, 1, 9);
        check.due("P7 a spoilt share behind the leading ones", 57, () -> x.issue(3, 1));
        // Through the places 1 to 3 with 89, 91 and 58: 58 is 10 more, so 3 times 10 more at the place 4.
        x.lose(3, 1);
        x.spoil(2, 1, 10);
        check.due("P7 a spoilt leading share", 87, () -> x.issue(3, 1));
        check.due("P7 holders", 6, () -> x.holders(1));
    }

    private static void issueRefuses() {
        FeatherShares x = Play.withBirds(0, 0);
        x.split(7, 2, 7);
        check.refused("P7 no bird", INDEX, () -> x.issue(2, 9));
        check.refused("P7 no bird", INDEX, () -> x.issue(-1, 1));
        check.refused("P7 no secret", ELEMENT, () -> x.issue(0, 2));
        check.refused("P7 held", STATE, () -> x.issue(0, 1));
        x.lose(1, 1);
        check.refused("P7 held, state first", STATE, () -> x.issue(0, 1));
        check.refused("P7 fewer holders", UNSUPPORTED, () -> x.issue(1, 1));
        x.lose(0, 1);
        check.refused("P7 no holders", UNSUPPORTED, () -> x.issue(1, 1));
        check.due("P7 holders", 0, () -> x.holders(1));
    }

    private static void refresh() {
        FeatherShares x = Play.withBirds(0, 0, 0, 0, 0, 0, 0, 0);
        x.split(42, 3, 5);
        // Added: 12 p + 19 p p, so 31, 100, 207, 352, 535, 756, 1015 and 1312.
        check.due("P8 refresh(1, 7)", 8, () -> x.refresh(1, 7));
        check.due("P8 shares", "1/3 0:23 1:94 2:61 3:21 4:71 5:17 6:53 7:82", () -> Play.secretLine(x, 1));
        check.due("P8 the value stays", 42, () -> x.rebuild(1));
        x.lose(2, 1);
        check.due("P8 refresh(1, 0)", 7, () -> x.refresh(1, 0));
        check.due("P8 a lost share stays lost", false, () -> x.holds(2, 1));
        x.split(5, 1, 5);
        check.due("P8 threshold 1", 0, () -> x.refresh(2, 96));
        check.due("P8 share(0, 2)", 5, () -> x.share(0, 2));
        // 92 + 5 is 0, so nothing is added.
        x.split(6, 2, 6);
        check.due("P8 a zero polynomial", 0, () -> x.refresh(3, 92));
        // (s + 5) p + (2 s + 5) p p is 0 at p = 1 for 3 s = -10, that is s = 29.
        x.split(7, 3, 7);
        check.due("P8 zero at one place", 7, () -> x.refresh(4, 29));
        check.due("P8 refresh(4, 96)", 8, () -> x.refresh(4, 96));
        check.refused("P8 seed 97", ARGUMENT, () -> x.refresh(4, 97));
        check.refused("P8 seed -1", ARGUMENT, () -> x.refresh(4, -1));
        check.refused("P8 no secret", ELEMENT, () -> x.refresh(5, 97));
    }

    private static void forget() {
        FeatherShares x = Play.withBirds(0, 0, 0);
        x.split(1, 1, 0);
        x.split(2, 2, 0);
        x.split(3, 3, 0);
        x.lose(0, 2);
        check.due("P9 forget(2)", 2, () -> x.forget(2));
        check.due("P9 exists(2)", false, () -> x.exists(2));
        check.due("P9 secretCount", 2, () -> x.secretCount());
        check.due("P9 shareTotal", 6, () -> x.shareTotal());
        check.due("P9 the others stay", "3/3", () -> Play.secretLine(x, 3).substring(0, 3));
        check.refused("P9 forgotten already", ELEMENT, () -> x.forget(2));
        check.refused("P9 forget(0)", ELEMENT, () -> x.forget(0));
        check.refused("P9 forget(4)", ELEMENT, () -> x.forget(4));
        check.due("P9 forget(3)", 3, () -> x.forget(3));
        check.due("P9 numbers are not used twice", 4, () -> x.split(4, 1, 0));
        check.due("P9 the new secret's shares", "4/1 0:4 1:4 2:4", () -> Play.secretLine(x, 4));
        x.lose(0, 4);
        x.lose(1, 4);
        x.lose(2, 4);
        check.due("P9 without shares", 0, () -> x.forget(4));
        check.due("P9 lostTotal", 4L, () -> x.lostTotal());
        x.addBird(0);
        x.forget(1);
        x.split(5, 1, 0);
        check.due("P9 a used row holds no old shares", "5/1 0:5 1:5 2:5 3:5", () -> Play.secretLine(x, 5));
    }

    private static void numbersAndPositions() {
        FeatherShares x = Play.withBirds(0);
        check.refused("P17 without secrets", INDEX, () -> x.secretAt(0));
        for (int i = 0; i < 6; i++) {
            x.split(i, 1, 0);
        }
        check.due("P15 secretCount", 6, () -> x.secretCount());
        x.forget(1);
        x.forget(4);
        check.due("P15 secretCount", 4, () -> x.secretCount());
        check.due("P16 exists(1)", false, () -> x.exists(1));
        check.due("P16 exists(2)", true, () -> x.exists(2));
        check.due("P16 exists(6)", true, () -> x.exists(6));
        check.due("P16 exists(7)", false, () -> x.exists(7));
        check.due("P16 exists(0)", false, () -> x.exists(0));
        check.due("P16 exists(-1)", false, () -> x.exists(-1));
        check.due("P16 exists(MIN)", false, () -> x.exists(Integer.MIN_VALUE));
        x.split(0, 1, 0);
        int[] numbers = {2, 3, 5, 6, 7};
        for (int i = 0; i < numbers.length; i++) {
            int position = i;
            check.due("P17 secretAt", numbers[i], () -> x.secretAt(position));
        }
        check.refused("P17 secretAt(5)", INDEX, () -> x.secretAt(5));
        check.refused("P17 secretAt(-1)", INDEX, () -> x.secretAt(-1));
        check.refused("P17 secretAt(MAX)", INDEX, () -> x.secretAt(Integer.MAX_VALUE));
    }

    private static void threshold() {
        FeatherShares x = Play.withBirds(0, 0, 0, 0);
        for (int need = 1; need <= 4; need++) {
            int wanted = need;
            x.split(0, need, 0);
            check.due("P18 threshold", wanted, () -> x.threshold(wanted));
        }
        check.refused("P18 threshold(0)", ELEMENT, () -> x.threshold(0));
        check.refused("P18 threshold(5)", ELEMENT, () -> x.threshold(5));
    }

    private static void holdsAndShare() {
        FeatherShares x = Play.withBirds(0, 0);
        x.split(1, 2, 3);
        x.lose(0, 1);
        check.due("P19 holds(0, 1)", false, () -> x.holds(0, 1));
        check.due("P19 holds(1, 1)", true, () -> x.holds(1, 1));
        check.refused("P19 no bird", INDEX, () -> x.holds(2, 9));
        check.refused("P19 no bird", INDEX, () -> x.holds(-1, 1));
        check.refused("P19 no secret", ELEMENT, () -> x.holds(0, 2));
        check.due("P20 share(1, 1)", 47, () -> x.share(1, 1));
        check.refused("P20 not held", STATE, () -> x.share(0, 1));
        check.refused("P20 no bird", INDEX, () -> x.share(2, 9));
        check.refused("P20 no bird", INDEX, () -> x.share(-1, 1));
        check.refused("P20 no secret", ELEMENT, () -> x.share(0, 2));
    }

    private static void holdersAndSpareShares() {
        FeatherShares x = Play.withBirds(0, 0, 0);
        x.split(1, 3, 3);
        x.addBird(0);
        check.due("P21 holders", 3, () -> x.holders(1));
        check.due("P22 spareShares", 0, () -> x.spareShares(1));
        x.issue(3, 1);
        check.due("P21 holders", 4, () -> x.holders(1));
        check.due("P22 spareShares", 1, () -> x.spareShares(1));
        for (int bird = 0; bird < 4; bird++) {
            x.lose(bird, 1);
        }
        check.due("P21 holders", 0, () -> x.holders(1));
        check.due("P22 spareShares", -3, () -> x.spareShares(1));
        check.refused("P21 no secret", ELEMENT, () -> x.holders(2));
        check.refused("P22 no secret", ELEMENT, () -> x.spareShares(0));
    }

    private static void canNestRebuild() {
        FeatherShares x = Play.withBirds(0, 1, 1, 2, 2, 2);
        x.split(1, 2, 3);
        check.due("P23 nest 0", false, () -> x.canNestRebuild(0, 1));
        check.due("P23 nest 1", true, () -> x.canNestRebuild(1, 1));
        check.due("P23 nest 2", true, () -> x.canNestRebuild(2, 1));
        check.due("P23 nest 3", false, () -> x.canNestRebuild(3, 1));
        x.lose(2, 1);
        check.due("P23 nest 1 with a lost share", false, () -> x.canNestRebuild(1, 1));
        x.move(0, 1);
        check.due("P23 nest 1 with another bird", true, () -> x.canNestRebuild(1, 1));
        check.refused("P23 nest 4", ARGUMENT, () -> x.canNestRebuild(4, 9));
        check.refused("P23 nest -1", ARGUMENT, () -> x.canNestRebuild(-1, 1));
        check.refused("P23 no secret", ELEMENT, () -> x.canNestRebuild(0, 2));
    }
}
