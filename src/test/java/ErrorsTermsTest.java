/** What the document says under ERRORS, sentence by sentence, up to its bounds and past them. */
public final class ErrorsTermsTest {
    private static final String HEADING = "ERRORS";
    private static final int UNKNOWN = FlatLottery.UNKNOWN;
    private static final int BAD_VALUE = FlatLottery.BAD_VALUE;
    private static final int FULL = FlatLottery.FULL;
    private static final int NOT_POSSIBLE = FlatLottery.NOT_POSSIBLE;
    private static final int NONE = FlatLottery.NONE;
    private static final String ORDER = "Where several errors can apply, the order of the @return line "
        + "is the order of the checks.";
    private static final String LAST = "NONE is no error; it is returned only if no error applies.";
    private static final String NOTHING = "A call that returns an error or NONE changes nothing.";

    public static void main(String[] args) {
        constants();
        orderOfAdding();
        orderOfChanging();
        orderOfWishing();
        orderOfReading();
        orderOfDrawing();
        orderOfAppealing();
        orderOfTelling();
        noneComesLast();
        nothingIsChanged();
        nothingIsChangedWhereAllIsFull();
        nothingIsChangedInANewObject();
        Run.end();
    }

    private static void constants() {
        int[] constants = {UNKNOWN, BAD_VALUE, FULL, NOT_POSSIBLE, NONE};
        String[] names = {"UNKNOWN", "BAD_VALUE", "FULL", "NOT_POSSIBLE", "NONE"};
        String[] words = {"There is no such flat or household.", "Another argument is out of range.",
            "There is no more room.", "This is not possible.", "There is no such thing; not an error."};
        for (int i = 0; i < names.length; i++) {
            Run.of(HEADING, "`" + names[i] + " = " + (-1 - i) + "`: " + words[i]);
            Run.check(names[i] + " is " + constants[i], constants[i] == -1 - i);
        }
    }

    private static void orderOfAdding() {
        Run run = Run.of(HEADING, ORDER);
        run.flats(12, 1, 1).households(12, 1, 9).unchanged("addFlat(1, 1)", FULL)
            .unchanged("addFlat(0, 1)", BAD_VALUE).unchanged("addFlat(6, 1)", BAD_VALUE)
            .unchanged("addFlat(1, 0)", BAD_VALUE).unchanged("addFlat(1, 1000)", BAD_VALUE)
            .unchanged("addHousehold(1, 1)", FULL).unchanged("addHousehold(0, 1)", BAD_VALUE)
            .unchanged("addHousehold(10, 1)", BAD_VALUE).unchanged("addHousehold(1, 0)", BAD_VALUE)
            .unchanged("addHousehold(1, 10000)", BAD_VALUE);
    }

    private static void orderOfChanging() {
        Run run = Run.of(HEADING, ORDER);
        run.households(1, 1, 9).unchanged("change(1, true, 0)", UNKNOWN)
            .unchanged("change(1, true, 10000)", UNKNOWN).unchanged("change(-1, false, 0)", UNKNOWN)
            .unchanged("change(1, false, 10)", UNKNOWN).unchanged("change(0, true, 0)", BAD_VALUE)
            .unchanged("change(0, false, 10)", BAD_VALUE).unchanged("change(1, true, 9)", UNKNOWN)
            .unchanged("change(1, false, 1)", UNKNOWN);
    }

    private static void orderOfWishing() {
        Run run = Run.of(HEADING, ORDER);
        run.flats(7, 1, 1).households(2, 1, 9).list(0, 0, 1, 2, 3, 4, 5)
            .unchanged("wish(0, 7)", UNKNOWN).unchanged("wish(0, -1)", UNKNOWN)
            .unchanged("wish(0, 0)", FULL).unchanged("wish(0, 5)", FULL)
            .unchanged("wish(0, 6)", FULL).unchanged("wish(2, 0)", UNKNOWN)
            .due("unwish(0, 5)", 5).unchanged("wish(0, 0)", NOT_POSSIBLE)
            .unchanged("unwish(0, 7)", UNKNOWN).unchanged("unwish(2, 0)", UNKNOWN)
            .unchanged("unwish(1, 7)", UNKNOWN).unchanged("unwish(1, 0)", NONE);
    }

    private static void orderOfReading() {
        Run run = Run.of(HEADING, ORDER);
        run.flats(2, 1, 1).households(2, 1, 9)
            .text("9:9,9?").unchanged("readLists()", -105)
            .text("9:9,9").unchanged("readLists()", UNKNOWN)
            .text("0:9,9").unchanged("readLists()", UNKNOWN)
            .text("0:1,1").unchanged("readLists()", BAD_VALUE)
            .text("0:1,1;9:0").unchanged("readLists()", UNKNOWN)
            .text("0:1,1;1:9").unchanged("readLists()", UNKNOWN)
            .text("0:1,1;1:").unchanged("readLists()", -108)
            .text("9:1,1;1:0,").unchanged("readLists()", -110)
            .text("0:1,0;1:0,1").act("readLists()", 2);
    }

    private static void orderOfDrawing() {
        Run run = Run.of(HEADING, ORDER);
        run.households(2, 1, 9).due("draw(1, 7)", 1).unchanged("draw(2, 0)", UNKNOWN)
            .unchanged("draw(2, 1000)", UNKNOWN).unchanged("draw(-1, 0)", UNKNOWN)
            .unchanged("draw(2, 7)", UNKNOWN).unchanged("draw(0, 7)", NOT_POSSIBLE)
            .unchanged("draw(1, 7)", NONE).unchanged("draw(0, 0)", BAD_VALUE);
    }

    private static void orderOfAppealing() {
        Run run = Run.of(HEADING, ORDER);
        run.households(1, 1, 9).unchanged("appeal(1, 3)", UNKNOWN).unchanged("appeal(-1, -1)", UNKNOWN)
            .due("appeal(0, 0)", 0).due("appeal(0, 0)", 0).unchanged("appeal(0, 2)", FULL)
            .unchanged("appeal(0, 3)", BAD_VALUE).unchanged("appeal(0, -1)", BAD_VALUE)
            .unchanged("appeal(1, 0)", UNKNOWN).unchanged("decline(1)", UNKNOWN)
            .unchanged("decline(0)", NOT_POSSIBLE).unchanged("moveOut(1)", UNKNOWN)
            .unchanged("moveOut(0)", NONE);
    }

    private static void orderOfTelling() {
        Run run = Run.of(HEADING, ORDER);
        run.flats(1, 1, 1).households(2, 1, 9)
            .unchanged("flat(1, -1)", UNKNOWN).unchanged("flat(1, 5)", UNKNOWN)
            .unchanged("flat(0, 5)", BAD_VALUE).unchanged("household(2, -1)", UNKNOWN)
            .unchanged("household(2, 10)", UNKNOWN).unchanged("household(0, 10)", BAD_VALUE)
            .unchanged("wished(2, -1)", UNKNOWN).unchanged("wished(0, -1)", BAD_VALUE)
            .unchanged("envies(2, 2)", UNKNOWN).unchanged("envies(-1, -1)", UNKNOWN)
            .unchanged("envies(NONE, NONE)", UNKNOWN).unchanged("envies(1, 1)", BAD_VALUE);
    }

    private static void noneComesLast() {
        Run run = Run.of(HEADING, LAST);
        run.flats(1, 1, 1).households(2, 1, 9)
            .unchanged("wished(2, 0)", UNKNOWN).unchanged("wished(0, 0)", NONE)
            .unchanged("ordered(-1)", BAD_VALUE).unchanged("ordered(0)", NONE)
            .unchanged("household(2, 2)", UNKNOWN).unchanged("household(0, 2)", NONE)
            .unchanged("flat(1, 2)", UNKNOWN).unchanged("flat(0, 2)", NONE)
            .unchanged("wouldGet(2, 2)", UNKNOWN).unchanged("wouldGet(2, NONE)", UNKNOWN)
            .unchanged("wouldGet(0, 2)", UNKNOWN).unchanged("wouldGet(0, 0)", NONE)
            .unchanged("wouldGet(0, NONE)", NONE).unchanged("moveOut(2)", UNKNOWN)
            .unchanged("moveOut(0)", NONE).unchanged("unwish(2, 0)", UNKNOWN)
            .unchanged("unwish(0, 1)", UNKNOWN).unchanged("unwish(0, 0)", NONE)
            .unchanged("change(2, true, 9)", UNKNOWN).unchanged("change(0, true, 9)", NONE)
            .unchanged("change(0, false, 1)", NONE);
    }

    /** With a full history, a snapshot that is another state, and a text. */
    private static Run ready() {
        return Run.of(HEADING, NOTHING).settled(2).due("keep()", 2).flats(5, 2, 300)
            .households(2, 1, 9).due("draw(2, 30)", 3).due("round()", 0).list(0, 0, 2)
            .list(1, 0, 1, 2, 3, 4, 5).list(2, 6).due("appeal(2, 0)", 101).due("appeal(2, 2)", 1)
            .text("0:1;1:0").due("count(11)", 4);
    }

    private static void nothingIsChanged() {
        ready().eachUnchanged(UNKNOWN, "change(4, true, 1)", "wish(4, 0)", "wish(0, 7)",
            "unwish(4, 0)", "unwish(0, 7)", "draw(4, 1)", "decline(4)", "appeal(4, 0)", "moveOut(4)",
            "flat(7, 0)", "household(4, 0)", "wished(4, 0)", "envies(4, 0)", "envies(0, 4)",
            "wouldGet(4, NONE)", "wouldGet(0, 4)");
        ready().eachUnchanged(BAD_VALUE, "addFlat(0, 1)", "addFlat(1, 1000)", "addHousehold(10, 1)",
            "addHousehold(1, 0)", "change(0, true, 0)", "change(0, false, 10)", "draw(0, 0)",
            "draw(0, 1000)", "appeal(0, 3)", "flat(0, 5)", "household(0, 10)", "wished(0, -1)",
            "ordered(-1)", "envies(0, 0)", "count(13)");
        ready().eachUnchanged(FULL, "wish(1, 6)", "appeal(2, 0)");
        ready().eachUnchanged(NOT_POSSIBLE, "wish(0, 0)", "draw(0, 2)", "decline(2)");
        ready().eachUnchanged(NONE, "change(0, true, 9)", "change(0, false, 1)", "unwish(0, 1)",
            "draw(0, 1)", "swap()", "moveOut(2)", "flat(2, 2)", "household(3, 2)", "wished(0, 2)",
            "ordered(3)", "wouldGet(0, 0)", "wouldGet(2, NONE)");
        ready().text("0:1;1:0,").unchanged("readLists()", -108);
        ready().text("0:1;4:0").unchanged("readLists()", UNKNOWN);
        ready().text("0:1;1:7").unchanged("readLists()", UNKNOWN);
        ready().text("0:1;1:0,0").unchanged("readLists()", BAD_VALUE);
    }

    private static void nothingIsChangedWhereAllIsFull() {
        Run run = Run.of(HEADING, NOTHING);
        run.settled(12).list(11, 0, 1, 2, 3, 4, 5).due("keep()", 12).due("decline(11)", 11)
            .text("11:11,10,9,8,7,6;10:11,10,9,8,7,6;9:11,10,9,8,7,6;10:11,10,9")
            .due("count(12)", 60).unchanged("type(59)", FULL).unchanged("addFlat(1, 1)", FULL)
            .unchanged("addHousehold(1, 1)", FULL).unchanged("wish(11, 11)", FULL)
            .unchanged("decline(11)", NOT_POSSIBLE).unchanged("moveOut(11)", NONE);
    }

    private static void nothingIsChangedInANewObject() {
        Run run = Run.of(HEADING, NOTHING);
        run.unchanged("round()", NOT_POSSIBLE).unchanged("swap()", NONE).unchanged("undo()", NONE)
            .unchanged("restore()", NONE).unchanged("readLists()", -100)
            .unchanged("change(0, true, 1)", UNKNOWN).unchanged("wish(0, 0)", UNKNOWN)
            .unchanged("unwish(0, 0)", UNKNOWN).unchanged("draw(0, 1)", UNKNOWN)
            .unchanged("decline(0)", UNKNOWN).unchanged("appeal(0, 0)", UNKNOWN)
            .unchanged("moveOut(0)", UNKNOWN).unchanged("flat(0, 0)", UNKNOWN)
            .unchanged("household(0, 0)", UNKNOWN).unchanged("wished(0, 0)", UNKNOWN)
            .unchanged("ordered(0)", NONE).unchanged("envies(0, 1)", UNKNOWN)
            .unchanged("wouldGet(0, NONE)", UNKNOWN);
    }
}
