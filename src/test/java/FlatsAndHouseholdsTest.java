/** Promises 1 to 6 and 8: a new object, flats, households, their lists and numbers. */
public final class FlatsAndHouseholdsTest {
    private static final int UNKNOWN = FlatLottery.UNKNOWN;
    private static final int BAD_VALUE = FlatLottery.BAD_VALUE;
    private static final int FULL = FlatLottery.FULL;
    private static final int NOT_POSSIBLE = FlatLottery.NOT_POSSIBLE;
    private static final int NONE = FlatLottery.NONE;

    public static void main(String[] args) {
        newObject();
        addFlat();
        addHousehold();
        change();
        wish();
        unwish();
        draw();
        Run.end();
    }

    private static void newObject() {
        Run run = new Run("1 a new object");
        for (int what = 0; what <= 12; what++) {
            run.due("count(" + what + ")", 0);
        }
        run.unchanged("flat(0, 0)", UNKNOWN).unchanged("household(0, 0)", UNKNOWN)
            .unchanged("ordered(0)", NONE).unchanged("most()", 0)
            .unchanged("undo()", NONE).unchanged("restore()", NONE)
            .unchanged("round()", NOT_POSSIBLE).unchanged("swap()", NONE)
            .unchanged("clearText()", 0).unchanged("readLists()", -100);
        Run first = new Run("1 two objects");
        first.flats(3, 1, 1);
        new Run("1 two objects").due("count(0)", 0);
        first.due("count(0)", 3);
    }

    private static void addFlat() {
        new Run("2 addFlat")
            .unchanged("addFlat(0, 1)", BAD_VALUE).unchanged("addFlat(6, 1)", BAD_VALUE)
            .unchanged("addFlat(-1, 1)", BAD_VALUE).unchanged("addFlat(1, 0)", BAD_VALUE)
            .unchanged("addFlat(1, 1000)", BAD_VALUE).unchanged("addFlat(1, -1)", BAD_VALUE)
            .unchanged("addFlat(2147483647, -2147483648)", BAD_VALUE)
            .act("addFlat(1, 999)", 0).act("addFlat(5, 1)", 1).act("addFlat(5, 1)", 2)
            .due("flat(0, 0)", 1).due("flat(0, 1)", 999).due("flat(0, 2)", NONE)
            .due("flat(1, 0)", 5).due("flat(1, 1)", 1).due("flat(0, 3)", 0).due("flat(0, 4)", 0)
            .due("count(0)", 3);
        new Run("2 addFlat, the twelfth")
            .flats(11, 2, 3).act("addFlat(4, 4)", 11).unchanged("addFlat(4, 4)", FULL)
            .unchanged("addFlat(0, 4)", BAD_VALUE).unchanged("addFlat(4, 1000)", BAD_VALUE)
            .due("count(0)", 12).due("undo()", 3).act("addFlat(5, 5)", 11).due("flat(11, 0)", 5);
    }

    private static void addHousehold() {
        new Run("3 addHousehold")
            .unchanged("addHousehold(0, 1)", BAD_VALUE).unchanged("addHousehold(10, 1)", BAD_VALUE)
            .unchanged("addHousehold(1, 0)", BAD_VALUE).unchanged("addHousehold(-3, 5)", BAD_VALUE)
            .unchanged("addHousehold(1, 10000)", BAD_VALUE).unchanged("addHousehold(1, -1)", BAD_VALUE)
            .act("addHousehold(1, 9999)", 0).act("addHousehold(9, 1)", 1)
            .due("household(0, 0)", 1).due("household(0, 1)", 9999).due("household(0, 2)", NONE)
            .due("household(0, 3)", 0).due("household(0, 4)", NONE).due("household(0, 5)", 0)
            .due("household(0, 6)", 0).due("household(0, 7)", NONE).due("household(0, 8)", NONE)
            .due("household(0, 9)", 0).due("household(1, 0)", 9).due("household(1, 1)", 1)
            .due("count(1)", 2);
        new Run("3 addHousehold, the twelfth")
            .households(11, 2, 3).act("addHousehold(4, 4)", 11)
            .unchanged("addHousehold(4, 4)", FULL).unchanged("addHousehold(0, 4)", BAD_VALUE)
            .unchanged("addHousehold(4, 10000)", BAD_VALUE).due("count(1)", 12);
        // A household that is added where another one was bears nothing of it.
        new Run("3 addHousehold, where another one was")
            .flats(1, 1, 1).due("keep()", 0).households(1, 1, 9).numbers(7)
            .due("round()", 0).due("appeal(0, 0)", 101).list(0, 0).due("round()", 1)
            .due("restore()", 0).due("addHousehold(2, 8)", 0).listIs(0).holds(NONE)
            .due("household(0, 0)", 2).due("household(0, 1)", 8).due("household(0, 2)", NONE)
            .due("household(0, 3)", 0).due("household(0, 6)", 0).due("household(0, 9)", 0)
            .due("flat(0, 2)", NONE).due("flat(0, 3)", 0).due("count(4)", 0).due("count(8)", 0);
    }

    private static void change() {
        Run run = new Run("4 change").flats(1, 2, 100).households(2, 3, 300);
        run.unchanged("change(2, true, 5)", UNKNOWN).unchanged("change(-1, true, 0)", UNKNOWN)
            .unchanged("change(2, false, 0)", UNKNOWN)
            .unchanged("change(0, true, 0)", BAD_VALUE).unchanged("change(0, true, 10000)", BAD_VALUE)
            .unchanged("change(0, false, 0)", BAD_VALUE).unchanged("change(0, false, 10)", BAD_VALUE)
            .unchanged("change(0, false, -3)", BAD_VALUE)
            .unchanged("change(0, true, 300)", NONE).unchanged("change(0, false, 3)", NONE)
            .act("change(0, true, 9999)", 300).act("change(0, true, 1)", 9999)
            .act("change(0, false, 9)", 3).act("change(0, false, 1)", 9)
            .due("household(0, 0)", 1).due("household(0, 1)", 1)
            .due("household(1, 0)", 3).due("household(1, 1)", 300);
        new Run("4 change, of one that holds a flat")
            .flats(1, 2, 100).households(1, 3, 300).list(0, 0).numbers(1).due("round()", 1)
            .act("change(0, true, 1)", 300).act("change(0, false, 9)", 3)
            .holds(0).due("flat(0, 2)", 0).due("flat(0, 4)", 0).due("household(0, 5)", 1);
    }

    private static void wish() {
        Run run = new Run("5 wish").flats(8, 1, 1).households(2, 1, 9);
        run.unchanged("wish(2, 0)", UNKNOWN).unchanged("wish(-1, 0)", UNKNOWN)
            .unchanged("wish(0, 8)", UNKNOWN).unchanged("wish(0, -1)", UNKNOWN)
            .unchanged("wish(0, -5)", UNKNOWN).unchanged("wish(-5, -5)", UNKNOWN)
            .act("wish(0, 7)", 1).act("wish(0, 2)", 2).act("wish(0, 5)", 3)
            .unchanged("wish(0, 7)", NOT_POSSIBLE).unchanged("wish(0, 2)", NOT_POSSIBLE)
            .act("wish(0, 0)", 4).act("wish(0, 1)", 5).unchanged("wish(0, 1)", NOT_POSSIBLE)
            .act("wish(0, 3)", 6).unchanged("wish(0, 4)", FULL).unchanged("wish(0, 7)", FULL)
            .unchanged("wish(0, 8)", UNKNOWN)
            .listIs(0, 7, 2, 5, 0, 1, 3).listIs(1);
        // A flat can be wished though the household isn't eligible for it.
        new Run("5 wish, not eligible").flats(1, 5, 999).households(1, 1, 1)
            .act("wish(0, 0)", 1).due("flat(0, 3)", 1).due("flat(0, 4)", 0);
    }

    private static void unwish() {
        Run run = new Run("6 unwish").flats(7, 1, 1).households(2, 1, 9);
        run.list(0, 4, 5, 6, 0, 1, 2).list(1, 4)
            .unchanged("unwish(2, 0)", UNKNOWN).unchanged("unwish(0, 7)", UNKNOWN)
            .unchanged("unwish(-1, 4)", UNKNOWN).unchanged("unwish(0, -1)", UNKNOWN)
            .unchanged("unwish(0, 3)", NONE).unchanged("unwish(1, 5)", NONE)
            .act("unwish(0, 6)", 2).listIs(0, 4, 5, 0, 1, 2)
            .act("unwish(0, 4)", 0).listIs(0, 5, 0, 1, 2)
            .act("unwish(0, 2)", 3).listIs(0, 5, 0, 1).unchanged("unwish(0, 2)", NONE)
            .act("wish(0, 4)", 4).listIs(0, 5, 0, 1, 4).listIs(1, 4)
            .act("unwish(1, 4)", 0).listIs(1).unchanged("unwish(1, 4)", NONE);
        new Run("6 unwish, a flat that it holds")
            .flats(1, 1, 1).households(1, 1, 9).list(0, 0).numbers(1).due("round()", 1)
            .act("unwish(0, 0)", 0).holds(0).due("flat(0, 2)", 0).due("flat(0, 3)", 0);
    }

    private static void draw() {
        Run run = new Run("8 draw").households(3, 1, 9);
        run.unchanged("draw(3, 1)", UNKNOWN).unchanged("draw(-1, 0)", UNKNOWN)
            .unchanged("draw(3, 1000)", UNKNOWN)
            .unchanged("draw(0, 0)", BAD_VALUE).unchanged("draw(0, 1000)", BAD_VALUE)
            .unchanged("draw(0, -5)", BAD_VALUE)
            .act("draw(1, 999)", 1).act("draw(0, 1)", 2)
            .unchanged("draw(2, 999)", NOT_POSSIBLE).unchanged("draw(0, 999)", NOT_POSSIBLE)
            .unchanged("draw(1, 999)", NONE).unchanged("draw(0, 1)", NONE)
            .act("draw(0, 2)", 2).act("draw(2, 1)", 3)
            .due("household(0, 2)", 2).due("household(1, 2)", 999).due("household(2, 2)", 1)
            .due("ordered(0)", 2).due("ordered(1)", 0).due("ordered(2)", 1).due("count(4)", 3);
    }
}
