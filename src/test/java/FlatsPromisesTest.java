/** Promises 1 to 6 and 8, up to the bounds of what they take and answer, and past them. */
public final class FlatsPromisesTest {
    private static final int UNKNOWN = FlatLottery.UNKNOWN;
    private static final int BAD_VALUE = FlatLottery.BAD_VALUE;
    private static final int FULL = FlatLottery.FULL;
    private static final int NOT_POSSIBLE = FlatLottery.NOT_POSSIBLE;
    private static final int NONE = FlatLottery.NONE;

    public static void main(String[] args) {
        fiveHundredAndTwelveCalls();
        newObject();
        addFlat();
        addHousehold();
        changeRange();
        changePrevious();
        changeKeepsItsFlat();
        wishCounts();
        wishBehindTheList();
        unwishPlaces();
        unwishUnknown();
        unwishKeepsItsFlat();
        drawErrors();
        drawCounts();
        Run.end();
    }

    private static void fiveHundredAndTwelveCalls() {
        String words = "An object is used for at most 512 calls after it has been made";
        Run rounds = Run.of("## What it is", words);
        rounds.due("addHousehold(1, 1)", 0).due("draw(0, 1)", 1);
        for (int round = 0; round < 509; round++) {
            rounds.due("round()", 0);
        }
        rounds.due("count(3)", 509);
        Run passed = Run.of("## What it is", words);
        passed.due("addHousehold(1, 1)", 0).due("draw(0, 1)", 1);
        for (int round = 0; round < 509; round++) {
            passed.due("round()", 0);
        }
        passed.due("household(0, 9)", 509);
        Run declined = Run.of("## What it is", words);
        declined.due("addFlat(1, 1)", 0).due("addHousehold(1, 9)", 0).due("draw(0, 1)", 1);
        for (int time = 0; time < 169; time++) {
            declined.due("wish(0, 0)", 1).due("round()", 1).due("decline(0)", 0);
        }
        declined.due("count(10)", 169);
        Run typed = Run.of("## What it is", words);
        for (int call = 0; call < 511; call++) {
            typed.due("type(0)", call < 60 ? call + 1 : FULL);
        }
        typed.due("count(12)", 60);
        Run undone = Run.of("## What it is", words);
        for (int time = 0; time < 255; time++) {
            undone.due("addFlat(1, 1)", 0).due("undo()", 0);
        }
        undone.due("undo()", NONE).due("count(0)", 0);
    }

    private static void newObject() {
        Run run = Run.of("## Promise 1: A new object",
            "Creates a lottery without flats and households.");
        for (int what = 0; what <= 12; what++) {
            run.unchanged("count(" + what + ")", 0);
        }
        run.unchanged("most()", 0).unchanged("ordered(0)", NONE).unchanged("flat(0, 0)", UNKNOWN)
            .unchanged("household(0, 0)", UNKNOWN).unchanged("undo()", NONE)
            .unchanged("restore()", NONE);
        // What one object bears is not in another one.
        Run.of("## Promise 1: A new object", "Creates a lottery").settled(2).due("keep()", 2).text("0:1");
        Run.of("## Promise 1: A new object", "Creates a lottery").unchanged("count(0)", 0)
            .unchanged("count(1)", 0).unchanged("count(11)", 0).unchanged("count(12)", 0)
            .unchanged("restore()", NONE);
    }

    private static void addFlat() {
        Run run = Run.of("## Promise 2: addFlat", "Returns its number; BAD_VALUE; FULL if there are 12.");
        run.act("addFlat(1, 999)", 0).act("addFlat(5, 1)", 1).due("flat(0, 0)", 1)
            .due("flat(0, 1)", 999).due("flat(1, 0)", 5).due("flat(1, 1)", 1).flats(9, 2, 2)
            .act("addFlat(1, 1)", 11).unchanged("addFlat(1, 1)", FULL);
        Run rooms = Run.of("## Promise 2: addFlat", "- `rooms`: 1 to 5");
        rooms.eachUnchanged(BAD_VALUE, "addFlat(0, 1)", "addFlat(6, 1)", "addFlat(0, 0)",
            "addFlat(-2147483648, 1)", "addFlat(2147483647, 1)").act("addFlat(1, 1)", 0)
            .act("addFlat(5, 1)", 1);
        Run rent = Run.of("## Promise 2: addFlat", "- `rent`: 1 to 999");
        rent.eachUnchanged(BAD_VALUE, "addFlat(1, 0)", "addFlat(1, 1000)", "addFlat(6, 1000)",
            "addFlat(1, -2147483648)", "addFlat(1, 2147483647)").act("addFlat(1, 1)", 0)
            .act("addFlat(1, 999)", 1);
    }

    private static void addHousehold() {
        Run run = Run.of("## Promise 3: addHousehold",
            "Returns its number; BAD_VALUE; FULL if there are 12.");
        run.act("addHousehold(1, 9999)", 0).act("addHousehold(9, 1)", 1).due("household(0, 0)", 1)
            .due("household(0, 1)", 9999).due("household(1, 0)", 9).due("household(1, 1)", 1)
            .households(9, 2, 2).act("addHousehold(1, 1)", 11).unchanged("addHousehold(1, 1)", FULL);
        Run members = Run.of("## Promise 3: addHousehold", "- `members`: 1 to 9");
        members.eachUnchanged(BAD_VALUE, "addHousehold(0, 1)", "addHousehold(10, 1)",
            "addHousehold(0, 0)", "addHousehold(-2147483648, 1)", "addHousehold(2147483647, 1)")
            .act("addHousehold(1, 1)", 0).act("addHousehold(9, 1)", 1);
        Run income = Run.of("## Promise 3: addHousehold", "- `income`: 1 to 9999");
        income.eachUnchanged(BAD_VALUE, "addHousehold(1, 0)", "addHousehold(1, 10000)",
            "addHousehold(10, 10000)", "addHousehold(1, -2147483648)", "addHousehold(1, 2147483647)")
            .act("addHousehold(1, 1)", 0).act("addHousehold(1, 9999)", 1);
    }

    private static void changeRange() {
        Run run = Run.of("## Promise 4: change",
            "- `income`: whether it is the income (1 to 9999), otherwise the members (1 to 9)");
        run.households(1, 5, 5).act("change(0, true, 10)", 5).act("change(0, true, 9999)", 10)
            .act("change(0, true, 1)", 9999).act("change(0, false, 9)", 5)
            .act("change(0, false, 1)", 9)
            .eachUnchanged(BAD_VALUE, "change(0, false, 10)", "change(0, false, 9999)",
                "change(0, false, 0)", "change(0, true, 0)", "change(0, true, 10000)",
                "change(0, true, -2147483648)", "change(0, false, 2147483647)")
            .eachUnchanged(UNKNOWN, "change(1, true, 2)", "change(1, false, 2)",
                "change(-1, true, 2)", "change(12, false, 2)", "change(2147483647, true, 2)");
    }

    private static void changePrevious() {
        Run run = Run.of("## Promise 4: change", "Returns the previous one");
        run.due("addHousehold(1, 1)", 0).due("addHousehold(9, 9999)", 1)
            .act("change(0, false, 9)", 1).act("change(0, true, 9999)", 1)
            .act("change(1, false, 1)", 9).act("change(1, true, 1)", 9999)
            .act("change(0, false, 1)", 9).act("change(0, true, 1)", 9999);
        // The members may become what the income is, and the other way about.
        Run already = Run.of("## Promise 4: change", "NONE if it is so already");
        already.due("addHousehold(5, 7)", 0).unchanged("change(0, false, 5)", NONE)
            .unchanged("change(0, true, 7)", NONE).act("change(0, false, 7)", 5)
            .unchanged("change(0, false, 7)", NONE).act("change(0, true, 5)", 7)
            .unchanged("change(0, true, 5)", NONE).due("household(0, 0)", 7)
            .due("household(0, 1)", 5);
    }

    private static void changeKeepsItsFlat() {
        Run run = Run.of("## Promise 4: change", "(it keeps its flat)");
        run.settled(2).list(0, 0).act("change(0, false, 9)", 1).holds(0, 1).due("flat(0, 2)", 0)
            .due("flat(0, 4)", 2).act("change(0, true, 1)", 9).holds(0, 1).due("count(2)", 2)
            .due("round()", 0).holds(0, 1).listIs(0, 0).due("household(0, 2)", 1);
    }

    private static void wishCounts() {
        Run run = Run.of("## Promise 5: wish", "Returns how many flats are on its list then; UNKNOWN "
            + "(household or flat); FULL if its list has 6; NOT_POSSIBLE if it is on its list already.");
        run.flats(7, 1, 1).households(1, 1, 9)
            .eachUnchanged(UNKNOWN, "wish(1, 0)", "wish(-1, 0)", "wish(0, 7)", "wish(0, -1)",
                "wish(0, NONE)", "wish(1, 7)", "wish(2147483647, 0)", "wish(0, -2147483648)");
        for (int flat = 0; flat < 6; flat++) {
            run.act("wish(0, " + flat + ")", flat + 1);
            if (flat < 5) {
                run.eachUnchanged(NOT_POSSIBLE, "wish(0, 0)", "wish(0, " + flat + ")");
            }
        }
        run.eachUnchanged(FULL, "wish(0, 6)", "wish(0, 0)", "wish(0, 5)")
            .unchanged("wish(0, 7)", UNKNOWN);
    }

    private static void wishBehindTheList() {
        Run run = Run.of("## Promise 5: wish", "Puts a flat behind the list of a household.");
        run.flats(12, 1, 1).households(1, 1, 1).act("wish(0, 11)", 1).listIs(0, 11)
            .act("wish(0, 0)", 2).listIs(0, 11, 0).act("wish(0, 5)", 3).listIs(0, 11, 0, 5)
            .act("wish(0, 4)", 4).act("wish(0, 10)", 5).act("wish(0, 1)", 6)
            .listIs(0, 11, 0, 5, 4, 10, 1);
        // One that it isn't eligible for, and one that another one or it itself holds.
        Run any = Run.of("## Promise 5: wish", "Puts a flat behind the list");
        any.settled(2).due("addFlat(5, 999)", 2).act("wish(0, 2)", 1).act("wish(0, 1)", 2)
            .act("wish(0, 0)", 3).listIs(0, 2, 1, 0).listIs(1);
    }

    private static void unwishPlaces() {
        int[] list = {7, 0, 6, 1, 5, 2};
        for (int place = 0; place < 6; place++) {
            Run run = Run.of("## Promise 6: unwish", "Returns the place on the list, from 0, that it had");
            run.flats(8, 1, 1).households(2, 1, 9).list(0, list).list(1, list)
                .act("unwish(0, " + list[place] + ")", place)
                .unchanged("unwish(0, " + list[place] + ")", NONE).due("household(0, 5)", 5)
                .listIs(1, list);
            for (int left = 0; left < 5; left++) {
                run.due("wished(0, " + left + ")", list[left < place ? left : left + 1]);
            }
            run.due("wished(0, 5)", NONE);
        }
        Run only = Run.of("## Promise 6: unwish", "NONE if it is not on its list");
        only.flats(2, 1, 1).households(1, 1, 9).unchanged("unwish(0, 0)", NONE).list(0, 0)
            .unchanged("unwish(0, 1)", NONE).act("unwish(0, 0)", 0).listIs(0)
            .unchanged("unwish(0, 0)", NONE);
    }

    private static void unwishUnknown() {
        Run run = Run.of("## Promise 6: unwish", "UNKNOWN (household or flat)");
        run.flats(1, 1, 1).households(1, 1, 9).list(0, 0)
            .eachUnchanged(UNKNOWN, "unwish(1, 0)", "unwish(-1, 0)", "unwish(0, 1)", "unwish(0, -1)",
                "unwish(0, NONE)", "unwish(NONE, NONE)", "unwish(2147483647, 0)",
                "unwish(0, -2147483648)").act("unwish(0, 0)", 0);
    }

    private static void unwishKeepsItsFlat() {
        Run run = Run.of("## Promise 6: unwish", "(it keeps it if it holds it)");
        run.flats(1, 1, 1).households(1, 1, 9).list(0, 0).numbers(1).due("round()", 1)
            .act("unwish(0, 0)", 0).holds(0).due("flat(0, 2)", 0).due("flat(0, 3)", 0)
            .due("round()", 0).holds(0).unchanged("unwish(0, 0)", NONE);
    }

    private static void drawErrors() {
        Run range = Run.of("## Promise 8: draw", "- `number`: 1 to 999");
        range.households(2, 1, 9)
            .eachUnchanged(BAD_VALUE, "draw(0, 0)", "draw(0, 1000)", "draw(0, NONE)", "draw(0, -1)",
                "draw(0, -2147483648)", "draw(0, 2147483647)")
            .eachUnchanged(UNKNOWN, "draw(2, 1)", "draw(-1, 1)", "draw(2147483647, 1)")
            .act("draw(0, 1)", 1).act("draw(1, 999)", 2);
        Run same = Run.of("## Promise 8: draw",
            "NOT_POSSIBLE if another household has this number; NONE if it has it already.");
        same.households(3, 1, 9).act("draw(0, 5)", 1).unchanged("draw(0, 5)", NONE)
            .unchanged("draw(1, 5)", NOT_POSSIBLE).unchanged("draw(2, 5)", NOT_POSSIBLE)
            .act("draw(2, 6)", 2).unchanged("draw(0, 6)", NOT_POSSIBLE).unchanged("draw(2, 6)", NONE)
            .act("draw(0, 7)", 2).act("draw(1, 5)", 3).unchanged("draw(0, 5)", NOT_POSSIBLE);
    }

    private static void drawCounts() {
        Run run = Run.of("## Promise 8: draw", "Returns how many households have a number then");
        run.households(12, 1, 9);
        for (int household = 0; household < 12; household++) {
            run.act("draw(" + household + ", " + (100 - household) + ")", household + 1)
                .due("count(4)", household + 1);
        }
        run.act("draw(0, 1)", 12).act("draw(11, 999)", 12).unchanged("draw(11, 999)", NONE)
            .unchanged("draw(0, 999)", NOT_POSSIBLE).due("count(4)", 12);
    }
}
