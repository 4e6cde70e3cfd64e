/** The sentences of the promises 43 to 45. */
final class UndoBounds extends Bounds {
    /** A bird that was moved so many times, to the nests 1, 2, 3, 0, 1 .. */
    private static FeatherShares moved(int times) {
        FeatherShares x = Play.withBirds(0);
        for (int i = 1; i <= times; i++) {
            x.move(0, i % 4);
        }
        return x;
    }

    private static FeatherShares withAllUndone() {
        FeatherShares x = Play.busy();
        for (int i = 0; i < 8; i++) {
            x.undo();
        }
        return x;
    }

    private static FeatherShares restored() {
        FeatherShares x = Play.busy();
        x.restore();
        return x;
    }

    @Sentence(of = 43, words = "Undoes the most recent changing call")
    static void theMostRecentCallIsUndoneFirst() {
        FeatherShares x = moved(8);
        for (int left = 7; left >= 0; left--) {
            due(left, x, "undo");
            due(left % 4, x, "nestOf", 0);
        }
    }

    @Sentence(of = 43, words = "the most recent changing call that has not been undone.")
    static void callsAfterAnUndoAreUndoneBeforeThoseAheadOfIt() {
        FeatherShares x = moved(3);
        due(3, x, "undo");
        x.move(0, 0);
        due(3, x, "undo");
        due(2, x, "nestOf", 0);
        due(2, x, "undo");
        due(1, x, "nestOf", 0);
        due(1, x, "undo");
        due(0, x, "nestOf", 0);
        due(0, x, "undo");
        due(0, x, "birdCount");
    }

    @Sentence(of = 43, words = "Returns the number of calls that can still be undone.")
    static void undoReturns7DownTo0() {
        FeatherShares x = Play.withBirds(0);
        due(0, x, "undo");
        for (int changes = 1; changes <= 20; changes++) {
            due(Math.min(changes + 1, 8) - 1, moved(changes), "undo");
        }
    }

    @Sentence(of = 43, words = "Throws IllegalStateException if no call can be undone")
    static void undoRefusesWhenNothingIsLeft() {
        inVain(FeatherShares::new, STATE, "undo");
        inVain(UndoBounds::withAllUndone, STATE, "undo");
        inVain(UndoBounds::restored, STATE, "undo");
        FeatherShares x = new FeatherShares();
        due(ARGUMENT, x, "addBird", 4);
        due(STATE, x, "undo");
        x.addBird(3);
        due(0, x, "undo");
        due(STATE, x, "undo");
    }

    @Sentence(of = 44, words = "Saves the state")
    static void saveKeepsAnEmptyAndACrowdedState() {
        FeatherShares x = new FeatherShares();
        due("done", x, "save");
        x.addBird(0);
        x.split(1, 1, 1);
        due("done", x, "restore");
        check.equal("the state", Look.state(new FeatherShares()), Look.state(x));
        FeatherShares y = Play.crowded();
        due("done", y, "save");
        y.lose(0, 1);
        y.move(7, 0);
        y.forget(7);
        due("done", y, "restore");
        check.equal("the state", Look.state(Play.crowded()), Look.state(y));
        y.forget(1);
        due(8, y, "split", 1, 1, 1);
    }

    @Sentence(of = 44, words = "replacing a previously saved state.")
    static void theStateSavedLastIsRestored() {
        FeatherShares x = moved(1);
        x.save();
        x.move(0, 2);
        x.save();
        x.move(0, 3);
        x.restore();
        due(2, x, "nestOf", 0);
    }

    @Sentence(of = 44, words = "Saving is not a changing call.")
    static void saveIsNotUndoneAndTakesNoUndoAway() {
        FeatherShares x = moved(8);
        x.save();
        due(7, x, "undo");
        due(3, x, "nestOf", 0);
        x.save();
        due(6, x, "undo");
        due(2, x, "nestOf", 0);
        FeatherShares y = new FeatherShares();
        y.save();
        due(STATE, y, "undo");
    }

    @Sentence(of = 45, words = "Restores the saved state, which stays saved.")
    static void restoreWorksAgainAndAgain() {
        FeatherShares x = moved(2);
        x.save();
        for (int i = 0; i < 3; i++) {
            x.move(0, 1);
            x.addBird(0);
            due("done", x, "restore");
            due(2, x, "nestOf", 0);
            due(1, x, "birdCount");
        }
        due("done", x, "restore");
        due(2, x, "nestOf", 0);
    }

    @Sentence(of = 45, words = "Afterwards no call can be undone.")
    static void nothingIsLeftToUndoAfterRestore() {
        FeatherShares x = moved(1);
        x.save();
        x.restore();
        due(STATE, x, "undo");
        due(1, x, "nestOf", 0);
        x.move(0, 3);
        due(0, x, "undo");
        due(STATE, x, "undo");
        FeatherShares y = moved(20);
        y.save();
        y.restore();
        due(STATE, y, "undo");
    }

    @Sentence(of = 45, words = "Throws IllegalStateException if no state was saved")
    static void restoreNeedsASave() {
        inVain(FeatherShares::new, STATE, "restore");
        inVain(() -> moved(9), STATE, "restore");
        FeatherShares x = new FeatherShares();
        x.save();
        due("done", x, "restore");
    }
}
