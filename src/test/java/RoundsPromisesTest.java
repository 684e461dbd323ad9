/** Promises 9 to 13, up to the bounds of what they take and answer, and past them. */
public final class RoundsPromisesTest {
    private static final int UNKNOWN = FlatLottery.UNKNOWN;
    private static final int BAD_VALUE = FlatLottery.BAD_VALUE;
    private static final int FULL = FlatLottery.FULL;
    private static final int NOT_POSSIBLE = FlatLottery.NOT_POSSIBLE;
    private static final int NONE = FlatLottery.NONE;

    public static void main(String[] args) {
        roundCounts();
        declineErrors();
        declineTakesOff();
        declinePoints();
        appealErrors();
        appealPoints();
        swapCounts();
        moveOutErrors();
        moveOutStays();
        Run.end();
    }

    private static void roundCounts() {
        Run run = Run.of("## Promise 9: round", "Returns how many households get a flat");
        run.flats(12, 1, 1).households(12, 1, 9);
        for (int household = 0; household < 12; household++) {
            run.list(household, household).due("draw(" + household + ", " + (household + 1) + ")",
                household + 1);
        }
        run.act("round()", 12).due("count(2)", 12).act("round()", 0).due("moveOut(3)", 3)
            .due("moveOut(11)", 11).due("decline(0)", 0).act("round()", 2).due("count(2)", 11)
            .due("count(3)", 3);
    }

    private static void declineErrors() {
        Run run = Run.of("## Promise 10: decline",
            "Returns the flat; UNKNOWN; NOT_POSSIBLE if it holds none.");
        run.settled(12)
            .eachUnchanged(UNKNOWN, "decline(12)", "decline(-1)", "decline(NONE)",
                "decline(2147483647)", "decline(-2147483648)").act("decline(0)", 0)
            .unchanged("decline(0)", NOT_POSSIBLE).act("decline(11)", 11)
            .unchanged("decline(11)", NOT_POSSIBLE).due("moveOut(5)", 5)
            .unchanged("decline(5)", NOT_POSSIBLE).due("count(10)", 2);
    }

    private static void declineTakesOff() {
        int[][] lists = {{0, 2, 3}, {2, 0, 3}, {2, 3, 0}, {0}, {}, {2, 3, 4, 5, 6, 0},
            {2, 3, 4, 5, 6, 7}};
        for (int[] list : lists) {
            Run run = Run.of("## Promise 10: decline",
                "which is free then, and is taken off its list (if it is on it)");
            run.settled(2).flats(6, 1, 1).list(0, list).list(1, 0).act("decline(0)", 0)
                .holds(NONE, 1).due("flat(0, 2)", NONE).due("flat(0, 3)", 2).listIs(1, 0)
                .due("household(0, 2)", 1).due("household(0, 6)", 0).due("count(10)", 1)
                .unchanged("decline(0)", NOT_POSSIBLE).due("count(10)", 1);
            int place = 0;
            for (int flat : list) {
                if (flat != 0) {
                    run.due("wished(0, " + place + ")", flat);
                    place++;
                }
            }
            run.due("household(0, 5)", place).due("wished(0, " + place + ")", NONE);
        }
    }

    private static void declinePoints() {
        String words = "its points become 1 fewer, but not fewer than 0";
        Run none = Run.of("## Promise 10: decline", words);
        none.settled(1).act("decline(0)", 0).due("household(0, 3)", 0);
        Run one = Run.of("## Promise 10: decline", words);
        one.flats(1, 1, 1).households(1, 1, 9).numbers(1).due("round()", 0).due("appeal(0, 0)", 101)
            .list(0, 0).due("round()", 1).act("decline(0)", 0).due("household(0, 3)", 0)
            .list(0, 0).due("round()", 1).act("decline(0)", 0).due("household(0, 3)", 0);
        Run two = Run.of("## Promise 10: decline", words);
        two.settled(2).due("change(0, false, 3)", 1).due("appeal(0, 1)", 102).act("decline(0)", 0)
            .due("household(0, 3)", 1).due("household(1, 3)", 0);
        Run six = Run.of("## Promise 10: decline", words);
        six.settled(2).list(0, 1).due("appeal(0, 2)", 103).due("appeal(0, 2)", 106)
            .act("decline(0)", 0).due("household(0, 3)", 5);
    }

    private static void appealErrors() {
        Run run = Run.of("## Promise 11: appeal", "UNKNOWN; BAD_VALUE; FULL if it has appealed twice.");
        run.households(2, 1, 9)
            .eachUnchanged(UNKNOWN, "appeal(2, 0)", "appeal(-1, 0)", "appeal(2, 3)",
                "appeal(2147483647, 0)")
            .eachUnchanged(BAD_VALUE, "appeal(0, 3)", "appeal(0, -1)")
            .act("appeal(0, 0)", 0).act("appeal(0, 2)", 0)
            .eachUnchanged(FULL, "appeal(0, 0)", "appeal(0, 1)", "appeal(0, 2)")
            .unchanged("appeal(0, 3)", BAD_VALUE).act("appeal(1, 0)", 0);
    }

    private static void appealPoints() {
        Run run = Run.of("## Promise 11: appeal", "Returns its points then, plus 100 if the reason holds");
        run.settled(2).list(0, 1).due("change(0, false, 3)", 1).act("appeal(0, 1)", 102)
            .due("household(0, 3)", 2).act("appeal(0, 0)", 2).due("household(0, 3)", 2);
        Run most = Run.of("## Promise 11: appeal", "Returns its points then, plus 100 if the reason holds");
        most.settled(2).list(0, 1).act("appeal(0, 2)", 103).act("appeal(0, 2)", 106)
            .due("household(0, 3)", 6).unchanged("appeal(0, 2)", FULL);
        Run none = Run.of("## Promise 11: appeal", "Returns its points then, plus 100 if the reason holds");
        none.settled(1).act("appeal(0, 2)", 0).act("appeal(0, 1)", 0).due("household(0, 3)", 0);
    }

    private static void swapCounts() {
        // All rings from two households to twelve.
        for (int size = 2; size <= 12; size++) {
            Run run = Run.of("## Promise 12: swap",
                "Returns how many households got another flat (each time)");
            run.settled(12);
            for (int household = 0; household < size; household++) {
                run.list(household, (household + 1) % size);
            }
            run.due("count(7)", size).act("swap()", size).due("household(0, 4)", 1)
                .due("household(" + (size - 1) + ", 4)", 0).unchanged("swap()", NONE);
        }
    }

    private static void moveOutErrors() {
        Run run = Run.of("## Promise 13: moveOut", "Returns the flat; UNKNOWN; NONE if it holds none.");
        run.settled(12)
            .eachUnchanged(UNKNOWN, "moveOut(12)", "moveOut(-1)", "moveOut(NONE)",
                "moveOut(2147483647)", "moveOut(-2147483648)").act("moveOut(0)", 0)
            .unchanged("moveOut(0)", NONE).act("moveOut(11)", 11).unchanged("moveOut(11)", NONE)
            .due("decline(5)", 5).unchanged("moveOut(5)", NONE).due("count(2)", 9);
    }

    private static void moveOutStays() {
        Run run = Run.of("## Promise 13: moveOut", "its flat is free (its list and points stay)");
        run.settled(2).list(1, 1, 0).due("change(1, false, 3)", 1).due("appeal(1, 1)", 102)
            .act("moveOut(1)", 1).holds(0, NONE).due("flat(1, 2)", NONE).listIs(1, 1, 0)
            .due("household(1, 3)", 2).due("household(1, 2)", 2).due("household(1, 6)", 1)
            .due("count(10)", 0).unchanged("moveOut(1)", NONE).act("moveOut(0)", 0)
            .due("count(2)", 0).unchanged("moveOut(0)", NONE).unchanged("moveOut(2)", UNKNOWN);
    }
}
