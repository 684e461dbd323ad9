/** What the document says under HISTORY, sentence by sentence, up to its bounds and past them. */
public final class HistoryTermsTest {
    private static final String HEADING = "HISTORY";
    private static final int NONE = FlatLottery.NONE;
    private static final String RECORDS = "Each call of a method that is described as an act, and "
        + "returns no error and not NONE, records the state that was before it.";
    private static final String STATE =
        "A state is everything but the text, the history and the snapshot.";

    /** Each changes one part of the state of ready(), or several; with the answer that is due. */
    private static final String[][] ACTS = {
        {"addFlat(5, 999)", "5"}, {"addHousehold(9, 9999)", "4"}, {"change(0, true, 8)", "9"},
        {"change(1, false, 4)", "2"}, {"wish(0, 4)", "3"}, {"unwish(0, 0)", "1"},
        {"readLists()", "2"}, {"draw(3, 9)", "4"}, {"draw(0, 10)", "3"}, {"round()", "1"},
        {"decline(1)", "1"}, {"appeal(2, 0)", "101"}, {"appeal(1, 1)", "0"},
        {"appeal(0, 2)", "103"}, {"swap()", "2"}, {"moveOut(0)", "0"}};

    public static void main(String[] args) {
        atMostFour();
        oldestIsDropped();
        removesTheLatest();
        actsRecord();
        actsThatChangeNothing();
        othersRecordNothing();
        refusedRecordNothing();
        oneSnapshot();
        emptyAtFirst();
        everythingIsUndone();
        everythingIsRestored();
        othersInTheirPlaces();
        butTheText();
        butTheHistory();
        butTheSnapshot();
        Run.end();
    }

    /** Households 0 and 1 hold what the other wishes; 2 was passed over; 3 has no number. */
    private static Run ready(String words) {
        return Run.of(HEADING, words).settled(2).flats(3, 1, 1).households(2, 1, 9)
            .due("change(1, false, 2)", 1).due("draw(2, 7)", 3).due("round()", 0).list(0, 1, 0)
            .list(1, 0, 1).list(2, 2).list(3, 3).text("2:3;0:4");
    }

    private static void atMostFour() {
        Run run = Run.of(HEADING, "A history of at most 4 states is kept");
        run.due("count(11)", 0);
        for (int acts = 1; acts <= 12; acts++) {
            run.act("addFlat(1, 1)", acts - 1).due("count(11)", Math.min(acts, 4));
        }
        for (int left = 3; left >= 0; left--) {
            run.due("undo()", left).due("count(11)", left);
        }
        run.due("count(0)", 8).unchanged("undo()", NONE).due("count(11)", 0).due("count(0)", 8);
    }

    private static void oldestIsDropped() {
        String words = "when one more is recorded, the oldest one is dropped";
        Run three = Run.of(HEADING, words);
        three.flats(3, 1, 1).due("undo()", 2).due("undo()", 1).due("undo()", 0).due("count(0)", 0)
            .unchanged("undo()", NONE);
        Run four = Run.of(HEADING, words);
        four.flats(4, 1, 1).due("undo()", 3).due("undo()", 2).due("undo()", 1).due("undo()", 0)
            .due("count(0)", 0).unchanged("undo()", NONE);
        Run five = Run.of(HEADING, words);
        five.flats(5, 1, 1).due("undo()", 3).due("undo()", 2).due("undo()", 1).due("undo()", 0)
            .due("count(0)", 1).unchanged("undo()", NONE).due("count(0)", 1);
        // What is dropped stays so, though there is room again.
        Run again = Run.of(HEADING, words);
        again.flats(6, 1, 1).due("undo()", 3).due("undo()", 2).flats(2, 2, 2).due("count(11)", 4)
            .due("undo()", 3).due("undo()", 2).due("undo()", 1).due("undo()", 0)
            .due("count(0)", 2).unchanged("undo()", NONE);
    }

    private static void removesTheLatest() {
        Run run = Run.of(HEADING, "undo() removes and restores the latest one");
        run.due("addFlat(1, 10)", 0).due("addFlat(2, 20)", 1).due("undo()", 1)
            .due("count(0)", 1).due("flat(0, 1)", 10).due("flat(1, 1)", FlatLottery.UNKNOWN)
            .due("undo()", 0).due("count(0)", 0).due("addFlat(3, 30)", 0).due("count(11)", 1)
            .due("flat(0, 1)", 30).due("undo()", 0).due("count(0)", 0).unchanged("undo()", NONE);
    }

    private static void actsRecord() {
        for (String[] act : ACTS) {
            ready(RECORDS).act(act[0], Integer.parseInt(act[1]));
        }
        Run restore = ready(RECORDS);
        restore.due("keep()", 2).due("moveOut(0)", 0).act("restore()", 2).holds(0, 1);
        // The first one that is recorded, too.
        Run.of(HEADING, RECORDS).act("addFlat(1, 1)", 0).due("undo()", 0).due("count(0)", 0);
        Run.of(HEADING, RECORDS).act("addHousehold(1, 1)", 0).due("undo()", 0).due("count(1)", 0);
        Run.of(HEADING, RECORDS).due("keep()", 0).act("restore()", 0).due("undo()", 0);
    }

    private static void actsThatChangeNothing() {
        // They return no error and not NONE, so they record.
        Run run = Run.of(HEADING, RECORDS);
        run.flats(1, 1, 1).households(1, 1, 9).list(0, 0).text("0:0").mark().act("readLists()", 1)
            .isMarked().due("keep()", 0).act("restore()", 0).isMarked().act("restore()", 0)
            .isMarked().due("count(11)", 4).due("undo()", 3).isMarked().due("undo()", 2).isMarked()
            .due("undo()", 1).isMarked().due("undo()", 0).isNotMarked();
    }

    private static void othersRecordNothing() {
        Run run = ready(RECORDS);
        run.changesText("type(48)", 8).changesText("clearText()", 8).changesText("clearText()", 0)
            .changesSnapshot("keep()", 2).changesSnapshot("keep()", 2);
        run.eachUnchanged(0, "flat(0, 2)", "household(0, 7)", "ordered(0)")
            .eachUnchanged(1, "flat(0, 0)", "household(0, 8)", "wished(0, 0)", "wouldGet(0, NONE)",
                "wouldGet(0, 1)")
            .eachUnchanged(2, "envies(0, 1)", "count(7)").eachUnchanged(4, "most()", "count(11)");
        // And an undo() is none itself: it can't be undone.
        run.mark().due("addFlat(1, 1)", 5).due("undo()", 3).isMarked().due("undo()", 2)
            .isNotMarked();
    }

    private static void refusedRecordNothing() {
        Run run = ready(RECORDS);
        run.eachUnchanged(-2, "addFlat(0, 1)", "addHousehold(1, 0)", "appeal(0, 3)")
            .eachUnchanged(-4, "wish(0, 0)", "draw(0, 2)", "decline(2)")
            .eachUnchanged(NONE, "change(0, true, 9)", "unwish(0, 4)", "draw(0, 1)", "moveOut(2)",
                "restore()");
        run.due("swap()", 2).unchanged("swap()", NONE).text("0:7").unchanged("readLists()", -1)
            .text("0:1,1").unchanged("readLists()", -2).text("0").unchanged("readLists()", -101);
        Run.of(HEADING, RECORDS).households(1, 1, 1).unchanged("round()", -4).due("count(11)", 1);
    }

    private static void oneSnapshot() {
        Run run = Run.of(HEADING, "There is one snapshot");
        run.flats(1, 1, 1).changesSnapshot("keep()", 0).flats(1, 2, 2).changesSnapshot("keep()", 0)
            .flats(1, 3, 3).act("restore()", 0).due("count(0)", 2).due("flat(1, 0)", 2)
            .flats(2, 4, 4).act("restore()", 0).due("count(0)", 2).due("undo()", 3)
            .due("count(0)", 4).act("restore()", 0).due("count(0)", 2);
    }

    private static void emptyAtFirst() {
        Run run = Run.of(HEADING, "There is one snapshot, empty at first.");
        run.unchanged("restore()", NONE).flats(1, 1, 1).unchanged("restore()", NONE)
            .due("count(11)", 1).due("undo()", 0).unchanged("restore()", NONE);
        // A snapshot of a lottery without anything is one, too.
        Run kept = Run.of(HEADING, "There is one snapshot, empty at first.");
        kept.changesSnapshot("keep()", 0).act("restore()", 0).flats(1, 1, 1).act("restore()", 0)
            .due("count(0)", 0);
    }

    private static void everythingIsUndone() {
        for (String[] act : ACTS) {
            Run run = ready(STATE);
            run.mark().due(act[0], Integer.parseInt(act[1])).isNotMarked().due("undo()", 3)
                .isMarked();
        }
        // As the first one of four, which are undone one behind the other.
        for (String[] act : ACTS) {
            Run run = ready(STATE);
            run.mark().due(act[0], Integer.parseInt(act[1])).due("change(3, true, 77)", 9)
                .due("change(3, true, 78)", 77).due("change(3, true, 79)", 78).isNotMarked()
                .due("undo()", 3).due("undo()", 2).due("undo()", 1).isNotMarked()
                .due("undo()", 0).isMarked();
        }
    }

    private static void everythingIsRestored() {
        Run all = ready(STATE);
        all.changesSnapshot("keep()", 2).mark();
        for (String[] act : ACTS) {
            Run run = ready(STATE);
            run.due("keep()", 2).mark().due(act[0], Integer.parseInt(act[1])).isNotMarked()
                .act("restore()", 2).isMarked();
            // The same act, from the snapshot on, with what it leaves in the same places.
            all.due(act[0], Integer.parseInt(act[1])).act("restore()", 2).isMarked();
        }
    }

    /** Flats and households that take the places of those of a state go again with it. */
    private static void othersInTheirPlaces() {
        Run run = Run.of(HEADING, STATE);
        run.due("keep()", 0).flats(1, 1, 10).flats(1, 2, 20).households(1, 3, 30)
            .households(1, 4, 40).due("restore()", 0).due("undo()", 3).due("count(0)", 2)
            .changesSnapshot("keep()", 0).mark().due("undo()", 2).due("undo()", 1)
            .due("undo()", 0).due("count(0)", 1).flats(1, 5, 500).households(2, 9, 9000)
            .isNotMarked().act("restore()", 0).isMarked().due("flat(1, 0)", 2).due("flat(1, 1)", 20)
            .due("household(0, 0)", 3).due("household(1, 1)", 40).due("undo()", 3)
            .due("flat(0, 1)", 10).due("flat(1, 0)", 5).due("flat(1, 1)", 500)
            .due("household(0, 0)", 9).due("household(1, 1)", 9000);
        Run first = Run.of(HEADING, STATE);
        first.flats(1, 1, 10).due("keep()", 0).due("undo()", 0).flats(2, 2, 20).due("restore()", 0)
            .due("flat(0, 0)", 1).due("flat(0, 1)", 10).due("undo()", 2).due("flat(0, 0)", 2)
            .due("flat(0, 1)", 20);
    }

    private static void butTheText() {
        Run run = Run.of(HEADING, STATE);
        run.flats(2, 1, 1).households(1, 1, 9).text("0:1").due("keep()", 0).flats(1, 1, 1)
            .due("type(44)", 4).due("type(48)", 5).due("undo()", 3).due("count(12)", 5)
            .act("readLists()", 1).listIs(0, 1, 0).due("restore()", 0).due("count(12)", 5)
            .listIs(0).act("readLists()", 1).listIs(0, 1, 0).due("clearText()", 5)
            .due("undo()", 3).due("count(12)", 0).due("restore()", 0).due("count(12)", 0)
            .unchanged("readLists()", -100);
    }

    private static void butTheHistory() {
        // A snapshot that was taken with a history brings none of it back, and takes none away.
        Run run = Run.of(HEADING, STATE);
        run.flats(3, 1, 1).due("keep()", 0).due("count(11)", 3).due("undo()", 2).due("undo()", 1)
            .due("undo()", 0).due("restore()", 0).due("count(11)", 1).due("count(0)", 3)
            .due("undo()", 0).due("count(0)", 0).unchanged("undo()", NONE);
        Run longer = Run.of(HEADING, STATE);
        longer.due("keep()", 0).flats(2, 1, 1).due("restore()", 0).due("count(11)", 3)
            .due("undo()", 2).due("count(0)", 2).due("undo()", 1).due("count(0)", 1);
    }

    private static void butTheSnapshot() {
        Run run = Run.of(HEADING, STATE);
        run.flats(2, 1, 1).due("keep()", 0).due("undo()", 1).due("undo()", 0)
            .unchanged("undo()", NONE).due("restore()", 0).due("count(0)", 2).due("undo()", 0)
            .due("count(0)", 0).due("restore()", 0).due("count(0)", 2);
        // Nor does a restored state bear the snapshot that was there before it.
        Run later = Run.of(HEADING, STATE);
        later.due("keep()", 0).flats(1, 1, 1).due("keep()", 0).due("undo()", 0).due("restore()", 0)
            .due("count(0)", 1).due("undo()", 0).due("restore()", 0).due("count(0)", 1);
    }
}
