/** Promises 16 to 18: undo and the snapshot. */
public final class HistoryTest {
    private static final int NONE = FlatLottery.NONE;

    public static void main(String[] args) {
        undo();
        fourStates();
        undoTakesAllBack();
        textStays();
        snapshot();
        restoreIsAnAct();
        Run.end();
    }

    private static void undo() {
        new Run("16 undo").unchanged("undo()", NONE).flats(1, 1, 1).households(1, 1, 9)
            .due("count(11)", 2).due("undo()", 1).due("count(1)", 0).due("count(0)", 1)
            .due("undo()", 0).due("count(0)", 0).unchanged("undo()", NONE);
        // What isn't an act, and what answers an error or NONE, records nothing.
        new Run("16 undo, what records").flats(1, 1, 1).households(1, 1, 9).due("type(48)", 1)
            .due("clearText()", 1).due("keep()", 0).due("addFlat(0, 0)", -2).due("moveOut(0)", NONE)
            .due("swap()", NONE).due("readLists()", -100).due("count(11)", 2);
        // An act that leaves all as it was is recorded, too.
        new Run("16 undo, an act without a change").flats(1, 1, 1).households(1, 1, 9).list(0, 0)
            .text("0:0").due("readLists()", 1).due("count(11)", 4).due("undo()", 3).listIs(0, 0);
    }

    private static void fourStates() {
        new Run("16 undo, four states").flats(6, 1, 1).due("count(11)", 4)
            .due("undo()", 3).due("count(0)", 5).due("undo()", 2).due("count(0)", 4)
            .flats(3, 2, 2).due("count(11)", 4).due("count(0)", 7).due("flat(4, 0)", 2)
            .due("undo()", 3).due("undo()", 2).due("undo()", 1).due("count(0)", 4)
            .due("undo()", 0).due("count(0)", 3).unchanged("undo()", NONE).due("flat(3, 0)", -1);
    }

    private static void undoTakesAllBack() {
        new Run("16 undo, rounds and appeals").flats(1, 1, 1).households(2, 1, 9).list(0, 0).list(1, 0)
            .numbers(3, 4).due("round()", 1).due("appeal(1, 0)", 101).due("appeal(1, 1)", 1)
            .due("decline(0)", 0).due("count(10)", 1).due("undo()", 3).holds(0, NONE).listIs(0, 0)
            .due("count(10)", 0).due("count(9)", 1).due("undo()", 2).due("count(9)", 0)
            .due("count(8)", 1).due("undo()", 1).due("household(1, 3)", 0).due("household(1, 6)", 0)
            .due("count(8)", 0).due("count(3)", 1).due("household(1, 9)", 1).due("undo()", 0)
            .due("count(3)", 0).due("household(1, 9)", 0).holds(NONE, NONE).due("count(4)", 2);
    }

    private static void textStays() {
        new Run("16 undo, the text stays").flats(1, 1, 1).households(1, 1, 9).text("0:0")
            .due("undo()", 1).due("count(12)", 3).due("readLists()", -1).due("keep()", 0)
            .due("type(49)", 4).due("restore()", 0).due("count(12)", 4)
            .due("readLists()", -103).due("clearText()", 4);
    }

    private static void snapshot() {
        Run run = new Run("17 keep").flats(2, 1, 1).households(2, 1, 9).list(0, 0).list(1, 1)
            .numbers(1, 2);
        run.unchanged("restore()", NONE).changesSnapshot("keep()", 0).due("round()", 2)
            .changesSnapshot("keep()", 2).due("moveOut(0)", 0).due("flat(0, 2)", NONE)
            .act("restore()", 2).holds(0, 1).act("decline(1)", 1).act("restore()", 2)
            .listIs(1, 1).due("count(10)", 0).changesSnapshot("keep()", 2);
        // The later snapshot takes the place of the earlier; undo() leaves it.
        run.due("moveOut(1)", 1).changesSnapshot("keep()", 1).due("undo()", 3).holds(0, 1)
            .act("restore()", 1).holds(0, NONE);
        new Run("17 keep, of nothing").due("keep()", 0).flats(3, 1, 1).act("restore()", 0)
            .due("count(0)", 0).due("count(11)", 4).due("undo()", 3).due("count(0)", 3);
        // Flats and households that took the places of those in the snapshot go again.
        new Run("17 keep, other flats in their places").flats(1, 2, 20).households(1, 3, 30)
            .due("keep()", 0).due("undo()", 1).due("undo()", 0).flats(2, 4, 40)
            .households(1, 5, 50).due("restore()", 0).due("flat(0, 0)", 2).due("flat(0, 1)", 20)
            .due("flat(1, 0)", -1).due("household(0, 0)", 3).due("household(0, 1)", 30)
            .due("undo()", 3).due("flat(0, 0)", 4).due("flat(1, 1)", 40)
            .due("household(0, 0)", 5).due("household(0, 1)", 50);
        // What happens after keep() doesn't reach into the snapshot.
        new Run("17 keep, is a copy").flats(2, 1, 1).households(1, 1, 9).list(0, 0, 1)
            .due("keep()", 0).due("change(0, false, 5)", 1).due("unwish(0, 0)", 0)
            .due("draw(0, 3)", 1).due("round()", 0).due("appeal(0, 0)", 101)
            .due("restore()", 0).due("household(0, 0)", 1).listIs(0, 0, 1)
            .due("household(0, 2)", NONE).due("household(0, 3)", 0).due("household(0, 9)", 0)
            .due("wish(0, 1)", -4).due("unwish(0, 1)", 1).due("restore()", 0).listIs(0, 0, 1);
    }

    private static void restoreIsAnAct() {
        new Run("18 restore").due("restore()", NONE).flats(1, 1, 1).due("keep()", 0)
            .due("restore()", 0).due("count(11)", 2).due("restore()", 0).due("count(11)", 3)
            .flats(1, 5, 5).due("restore()", 0).due("count(0)", 1).due("undo()", 3)
            .due("count(0)", 2).due("flat(1, 0)", 5).due("restore()", 0).due("restore()", 0)
            .due("restore()", 0).due("restore()", 0).due("restore()", 0).due("count(11)", 4)
            .due("count(0)", 1);
    }
}
