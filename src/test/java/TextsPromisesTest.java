/** Promises 7 and 14 to 18, up to the bounds of what they take and answer, and past them. */
public final class TextsPromisesTest {
    private static final int UNKNOWN = FlatLottery.UNKNOWN;
    private static final int BAD_VALUE = FlatLottery.BAD_VALUE;
    private static final int FULL = FlatLottery.FULL;
    private static final int NONE = FlatLottery.NONE;

    public static void main(String[] args) {
        readOneAfterTheOther();
        readCounts();
        readUnknown();
        readTwice();
        typeLengths();
        clearTextLengths();
        undoCounts();
        keepAndRestoreCount();
        keepInPlace();
        Run.end();
    }

    private static Run reading(String words, int flats, int households) {
        return Run.of("## Promise 7: readLists", words).flats(flats, 1, 1).households(households, 1, 9);
    }

    private static void readOneAfterTheOther() {
        reading("one after the other, each in the place of the list that there was", 12, 3)
            .list(0, 1, 2, 3, 4, 5, 6).list(1, 7).text("0:9;2:11,10").act("readLists()", 2)
            .listIs(0, 9).listIs(1, 7).listIs(2, 11, 10);
        reading("one after the other", 12, 2).text("0:1,2,3;1:4;0:5").act("readLists()", 3)
            .listIs(0, 5).listIs(1, 4);
        reading("Lays the lists of the text, which stays", 2, 2).text("0:1").act("readLists()", 1)
            .due("count(12)", 3).due("unwish(0, 1)", 0).act("readLists()", 1).listIs(0, 1)
            .changesText("type(59)", 4).unchanged("readLists()", -104).due("count(12)", 4);
        reading("This is one act.", 4, 4).text("0:1;1:2;2:3;3:0").due("readLists()", 4)
            .due("count(11)", 4).due("undo()", 3).listIs(0).listIs(1).listIs(2).listIs(3)
            .due("count(1)", 4).due("undo()", 2).due("count(1)", 3);
    }

    private static void readCounts() {
        String all = "0:0;1:1;2:2;3:3;4:4;5:5;6:6;7:7;8:8;9:9;0:1;1:2;2:3;3:4;4:5";
        for (int lists = 1; lists <= 15; lists++) {
            reading("Returns how many lists the text has", 12, 12).text(all.substring(0, 4 * lists - 1))
                .act("readLists()", lists);
        }
        reading("-100 minus the fault of the text if it has one (which is an error)", 12, 12)
            .unchanged("readLists()", -100).text(all + ";").unchanged("readLists()", -160)
            .due("count(11)", 4);
    }

    private static void readUnknown() {
        String words = "UNKNOWN if any household or flat is not there";
        reading(words, 11, 11).text("10:10").act("readLists()", 1).text("11:10")
            .unchanged("readLists()", UNKNOWN).text("10:11").unchanged("readLists()", UNKNOWN)
            .text("10:0,11").unchanged("readLists()", UNKNOWN).listIs(10, 10);
        reading(words, 1, 1).text("0:0").act("readLists()", 1).text("1:0")
            .unchanged("readLists()", UNKNOWN).text("0:1").unchanged("readLists()", UNKNOWN)
            .text("0:0;1:0").unchanged("readLists()", UNKNOWN).text("0:0;0:0,1")
            .unchanged("readLists()", UNKNOWN).text("0:0;0:0").act("readLists()", 2);
        // What another text had behind its lists makes no difference.
        reading(words, 2, 1).text("0:0;0:1;9:9,9").unchanged("readLists()", UNKNOWN).text("0:1;0:0")
            .act("readLists()", 2).listIs(0, 0).text("0:1").act("readLists()", 1).listIs(0, 1);
        reading(words, 0, 1).text("0:0").unchanged("readLists()", UNKNOWN).flats(1, 1, 1)
            .act("readLists()", 1);
        reading(words, 1, 0).text("0:0").unchanged("readLists()", UNKNOWN).households(1, 1, 1)
            .act("readLists()", 1);
    }

    private static void readTwice() {
        String words = "BAD_VALUE if a flat stands twice in one list";
        reading(words, 12, 12).text("0:0,0").unchanged("readLists()", BAD_VALUE)
            .text("0:11,1,10,0,2,11").unchanged("readLists()", BAD_VALUE)
            .text("0:11,1,10,0,2,2").unchanged("readLists()", BAD_VALUE)
            .text("0:11,1,10,0,2,3").act("readLists()", 1).listIs(0, 11, 1, 10, 0, 2, 3)
            .text("1:0;2:0;1:0").act("readLists()", 3).listIs(1, 0).listIs(2, 0)
            .text("1:3;2:4;3:5,6,5").unchanged("readLists()", BAD_VALUE).listIs(1, 0)
            .text("1:3;2:4").act("readLists()", 2).listIs(1, 3).listIs(2, 4);
    }

    private static void typeLengths() {
        Run run = Run.of("## Promise 14: type",
            "Returns the length of the text then; FULL if it has 60 characters.");
        for (int length = 1; length <= 58; length++) {
            run.due("type(48)", length);
        }
        run.changesText("type(48)", 59).changesText("type(48)", 60).unchanged("type(48)", FULL)
            .changesText("clearText()", 60).changesText("type(48)", 1);
        Run behind = Run.of("## Promise 14: type", "Types a character behind the text.");
        behind.flats(12, 1, 1).households(12, 1, 9).due("type(49)", 1).due("type(58)", 2)
            .due("type(49)", 3).act("readLists()", 1).listIs(1, 1).due("type(48)", 4)
            .act("readLists()", 1).listIs(1, 10);
    }

    private static void clearTextLengths() {
        Run run = Run.of("## Promise 15: clearText", "Returns the length that it had.");
        run.changesText("clearText()", 0).due("type(48)", 1).changesText("clearText()", 1)
            .changesText("clearText()", 0);
        for (int length = 1; length <= 60; length++) {
            run.due("type(48)", length);
        }
        run.changesText("clearText()", 60).due("count(12)", 0).changesText("clearText()", 0)
            .unchanged("readLists()", -100);
        // Nothing of the text that was is read again.
        reading("Lays the lists of the text", 2, 2).text("0:1;1:0").changesText("clearText()", 7)
            .unchanged("readLists()", -100).due("type(48)", 1).unchanged("readLists()", -101)
            .due("type(58)", 2).unchanged("readLists()", -102).due("type(48)", 3)
            .act("readLists()", 1).listIs(0, 0).listIs(1);
    }

    private static void undoCounts() {
        Run run = Run.of("## Promise 16: undo",
            "Returns the number of states that are left; NONE if the history is empty.");
        run.unchanged("undo()", NONE).flats(1, 1, 1).due("undo()", 0).unchanged("undo()", NONE)
            .flats(2, 1, 1).due("undo()", 1).due("undo()", 0).unchanged("undo()", NONE)
            .flats(5, 1, 1).due("undo()", 3).due("undo()", 2).due("undo()", 1).due("undo()", 0)
            .unchanged("undo()", NONE).due("count(0)", 1);
    }

    private static void keepAndRestoreCount() {
        Run none = Run.of("## Promise 17: keep", "Returns how many flats are held.");
        none.changesSnapshot("keep()", 0).flats(12, 1, 1).households(12, 1, 9)
            .changesSnapshot("keep()", 0);
        Run all = Run.of("## Promise 17: keep", "Returns how many flats are held.");
        all.settled(12).changesSnapshot("keep()", 12).due("moveOut(0)", 0)
            .changesSnapshot("keep()", 11);
        Run then = Run.of("## Promise 18: restore", "Returns how many flats are held then");
        then.unchanged("restore()", NONE).due("keep()", 0).settled(12).act("restore()", 0)
            .due("undo()", 3).due("keep()", 12).due("moveOut(5)", 5).due("decline(11)", 11)
            .due("count(2)", 10).act("restore()", 12).due("count(2)", 12).act("restore()", 12);
        Run stays = Run.of("## Promise 18: restore", "the snapshot, which stays");
        stays.settled(1).due("keep()", 1).due("decline(0)", 0).act("restore()", 1).holds(0)
            .due("moveOut(0)", 0).act("restore()", 1).holds(0).due("undo()", 3).holds(NONE)
            .act("restore()", 1).holds(0);
    }

    private static void keepInPlace() {
        Run run = Run.of("## Promise 17: keep",
            "Takes a snapshot of the state, in place of the one that was.");
        run.settled(2).changesSnapshot("keep()", 2).due("decline(0)", 0)
            .changesSnapshot("keep()", 1).due("moveOut(1)", 1).act("restore()", 1)
            .holds(NONE, 1).due("count(10)", 1).due("moveOut(1)", 1).changesSnapshot("keep()", 0)
            .due("undo()", 3).holds(NONE, 1).act("restore()", 0).holds(NONE, NONE);
        Run none = Run.of("## Promise 18: restore", "NONE if there is no snapshot.");
        none.unchanged("restore()", NONE).settled(1).unchanged("restore()", NONE).holds(0)
            .due("keep()", 1).act("restore()", 1);
    }
}
