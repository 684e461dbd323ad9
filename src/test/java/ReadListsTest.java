/** Promises 7, 14 and 15: texts of lists. */
public final class ReadListsTest {
    private static final int UNKNOWN = FlatLottery.UNKNOWN;
    private static final int BAD_VALUE = FlatLottery.BAD_VALUE;
    private static final int FULL = FlatLottery.FULL;

    public static void main(String[] args) {
        type();
        clearText();
        good();
        faults();
        everyFirstFault();
        unknown();
        twice();
        errorsInOrder();
        Run.end();
    }

    private static Run twelve() {
        return new Run("7 readLists").flats(12, 1, 1).households(12, 1, 9);
    }

    private static void type() {
        Run run = new Run("14 type");
        int[] any = {0, 48, 65535, 233, 10, 1000};
        for (int i = 0; i < 60; i++) {
            run.due("type(" + any[i % any.length] + ")", i + 1).due("count(12)", i + 1);
        }
        run.unchanged("type(48)", FULL).unchanged("type(65535)", FULL).due("count(11)", 0)
            .due("readLists()", -100);
    }

    private static void clearText() {
        new Run("15 clearText").unchanged("clearText()", 0).text("0:0")
            .due("clearText()", 3).due("count(12)", 0).due("clearText()", 0)
            .due("readLists()", -100).due("count(11)", 0).due("undo()", FlatLottery.NONE)
            .due("type(49)", 1);
        new Run("15 clearText, no act").flats(1, 1, 1).text("0:0").due("undo()", 0)
            .due("count(12)", 3);
    }

    private static void good() {
        twelve().list(0, 5, 6).list(3, 1).text("0:1,2,3;11:11,10,9,1,0,8;1:7")
            .act("readLists()", 3).due("count(12)", 28)
            .listIs(0, 1, 2, 3).listIs(11, 11, 10, 9, 1, 0, 8).listIs(1, 7).listIs(3, 1)
            .act("readLists()", 3);
        twelve().text("2:0,1;2:5;2:4,3").act("readLists()", 3).listIs(2, 4, 3);
        // One act, so that one undo() takes all lists back.
        twelve().list(0, 5, 6).text("0:1;1:2;0:3").due("readLists()", 3).due("undo()", 3)
            .listIs(0, 5, 6).listIs(1);
        // Lists only: a household keeps its flat, and may wish what it is not eligible for.
        new Run("7 readLists, of one that holds a flat").flats(1, 1, 1).due("addFlat(5, 999)", 1)
            .households(1, 1, 9).list(0, 0).numbers(1).due("round()", 1).text("0:1")
            .act("readLists()", 1).holds(0).listIs(0, 1);
        // The longest number of lists in 60 characters.
        twelve().text("0:0;1:1;2:2;3:3;4:4;5:5;6:6;7:7;8:8;9:9;0:1;1:2;2:3;3:4;4:5")
            .act("readLists()", 15).listIs(0, 1).listIs(4, 5).listIs(9, 9);
        twelve().text("10:10,11,0,1,2,3;11:10,11,0,1,2,3;0:10,11,0,1,2,3;1:10,11,0")
            .act("readLists()", 4).listIs(1, 10, 11, 0).listIs(10, 10, 11, 0, 1, 2, 3);
    }

    private static void faults() {
        fault("", 0);
        fault("0", 1);
        fault("1", 1);
        fault("11", 2);
        fault("0:", 2);
        fault("0:1,", 4);
        fault("0:1;", 4);
        fault("0:1;2", 5);
        fault("0:1;2:", 6);
        fault("x", 0);
        fault(" 0:1", 0);
        fault(":", 0);
        fault(";", 0);
        fault("0,1", 1);
        fault("0;1", 1);
        fault("00:1", 1);
        fault("01:1", 1);
        fault("12:1", 1);
        fault("20:1", 1);
        fault("99:1", 1);
        fault("111:1", 2);
        fault("100:1", 2);
        fault("0::", 2);
        fault("0:00", 3);
        fault("0:01", 3);
        fault("0:12", 3);
        fault("0:19", 3);
        fault("0:21", 3);
        fault("0:110", 4);
        fault("0:1:2", 3);
        fault("0:1,,2", 4);
        fault("0:1,;", 4);
        fault("0:1;;", 4);
        fault("0:1 ", 3);
        fault("0:-1", 2);
        fault("0:1,2,3,4,5,6,7", 13);
        fault("0:1,2,3,4,5,6,", 13);
        fault("0:1,2,3,4,5,10,11", 14);
        fault("0:1;1:12", 7);
        fault("0:1;1:1,2,3,4,5,6,0;0:1", 17);
        fault("0:1\u0660", 3);
        fault("\uff11:1", 0);
        fault("0:1/", 3);
        fault("/:1", 0);
        fault("0:1\u0000", 3);
        // The text may end too early at its full length, too.
        fault("0:0;1:1;2:2;3:3;4:4;5:5;6:6;7:7;8:8;9:9;0:1;1:2;2:3;3:4;4:5;", 60);
        fault("0:0;1:1;2:2;3:3;4:4;5:5;6:6;7:7;8:8;9:9;0:1;1:2;2:3;3:4;4:5,", 60);
        fault("10:10,11,0,1,2,3;11:10,11,0,1,2,3;0:10,11,0,1,2,3;1:10,11,0;", 60);
    }

    private static void fault(String text, int fault) {
        twelve().list(0, 3).text(text).unchanged("readLists()", -100 - fault).listIs(0, 3);
    }

    /** At each place of a good text, a character that is never allowed is the fault. */
    private static void everyFirstFault() {
        String good = "10:1,11,0;3:5";
        for (int place = 0; place <= good.length(); place++) {
            String cut = good.substring(0, place);
            fault(cut + "?" + good.substring(place), place);
        }
    }

    private static void unknown() {
        Run run = new Run("7 readLists, unknown").flats(3, 1, 1).households(2, 1, 9);
        run.text("2:0").unchanged("readLists()", UNKNOWN)
            .text("0:3").unchanged("readLists()", UNKNOWN)
            .text("0:1;1:0,1,11").unchanged("readLists()", UNKNOWN)
            .text("0:1;11:0").unchanged("readLists()", UNKNOWN).listIs(0).listIs(1)
            .text("1:2;0:2").act("readLists()", 2);
        // What stood in another text before makes no difference.
        run.text("0:1,11;7:0").unchanged("readLists()", UNKNOWN).text("0:1").act("readLists()", 1)
            .listIs(0, 1).listIs(1, 2);
    }

    private static void twice() {
        twelve().text("0:1,2,1").unchanged("readLists()", BAD_VALUE)
            .text("0:1;1:5,5").unchanged("readLists()", BAD_VALUE).listIs(0).listIs(1)
            .text("0:0,1,2,3,4,0").unchanged("readLists()", BAD_VALUE)
            .text("0:11,1,11").unchanged("readLists()", BAD_VALUE)
            .text("0:1;0:1;1:1").act("readLists()", 3)
            .text("0:1;1:5,5").unchanged("readLists()", BAD_VALUE)
            .text("0:1").act("readLists()", 1).listIs(0, 1).listIs(1, 1);
    }

    private static void errorsInOrder() {
        Run run = new Run("7 readLists, errors in order").flats(2, 1, 1).households(1, 1, 9);
        run.text("5:1,1?").unchanged("readLists()", -105)
            .text("0:1,1;0:5").unchanged("readLists()", UNKNOWN)
            .text("0:1,1;1:0").unchanged("readLists()", UNKNOWN)
            .text("0:7,7").unchanged("readLists()", UNKNOWN)
            .text("0:1,1").unchanged("readLists()", BAD_VALUE);
    }
}
