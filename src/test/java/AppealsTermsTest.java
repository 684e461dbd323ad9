/** What the document says under APPEALS, sentence by sentence, up to its bounds and past them. */
public final class AppealsTermsTest {
    private static final String HEADING = "APPEALS";
    private static final int BAD_VALUE = FlatLottery.BAD_VALUE;
    private static final int FULL = FlatLottery.FULL;
    private static final int NONE = FlatLottery.NONE;

    public static void main(String[] args) {
        twice();
        reasons();
        hasANumber();
        holdsNoFlat();
        stoodWithoutAFlat();
        holdsAFlat();
        membersMoreThanRooms();
        standsInTheOrder();
        behindByNumber();
        behindByPoints();
        wishesMore();
        wishesMoreThanNone();
        eligibleForIt();
        pointsGrow();
        refused();
        bothCount();
        Run.end();
    }

    private static void twice() {
        Run run = Run.of(HEADING, "A household can appeal twice");
        run.households(12, 1, 9).due("household(0, 6)", 0).act("appeal(0, 0)", 0)
            .due("household(0, 6)", 1).act("appeal(0, 0)", 0).due("household(0, 6)", 2)
            .unchanged("appeal(0, 0)", FULL).unchanged("appeal(0, 1)", FULL)
            .unchanged("appeal(0, 2)", FULL).due("household(0, 6)", 2)
            .act("appeal(11, 0)", 0).act("appeal(11, 2)", 0).unchanged("appeal(11, 0)", FULL)
            .due("household(1, 6)", 0).due("count(8)", 4);
        // An undo() takes an appeal back, and there is room for it again.
        run.due("undo()", 3).due("household(11, 6)", 1).due("count(8)", 3).act("appeal(11, 1)", 0)
            .unchanged("appeal(11, 1)", FULL);
        // Not even with a reason that would hold, and neither do declining or moving out help.
        Run holds = Run.of(HEADING, "A household can appeal twice");
        holds.flats(1, 1, 1).households(1, 1, 9).list(0, 0).numbers(1).due("round()", 1)
            .due("change(0, false, 3)", 1).act("appeal(0, 1)", 102).act("appeal(0, 1)", 104)
            .unchanged("appeal(0, 1)", FULL).due("moveOut(0)", 0).unchanged("appeal(0, 1)", FULL)
            .due("household(0, 3)", 4).due("change(0, false, 1)", 3).due("round()", 1)
            .due("decline(0)", 0).due("round()", 0).unchanged("appeal(0, 0)", FULL)
            .due("household(0, 3)", 3);
    }

    private static void reasons() {
        Run run = Run.of("## Promise 11: appeal", "- `reason`: 0 to 2");
        run.households(1, 1, 9);
        for (int reason : new int[] {Integer.MIN_VALUE, -5, -1, 3, 4, Integer.MAX_VALUE}) {
            run.unchanged("appeal(0, " + reason + ")", BAD_VALUE);
        }
        run.due("household(0, 6)", 0).due("count(8)", 0).due("count(9)", 0)
            .act("appeal(0, 2)", 0).act("appeal(0, 0)", 0);
    }

    private static void hasANumber() {
        // A round without it, then one with it: before that it has no number, or no round.
        Run run = Run.of(HEADING, "0 it is passed over: it has a number");
        run.households(3, 1, 9).due("draw(1, 1)", 1).due("round()", 0).act("appeal(0, 0)", 0)
            .due("household(0, 9)", 0).due("draw(0, 2)", 2).act("appeal(0, 0)", 0)
            .due("draw(2, 3)", 3).due("round()", 0).act("appeal(2, 0)", 101).act("appeal(1, 0)", 101)
            .due("household(1, 9)", 2).due("household(2, 9)", 1).due("count(9)", 2);
    }

    private static void holdsNoFlat() {
        // Passed over once, then it holds a flat, then it holds none again.
        Run run = Run.of(HEADING, "holds no flat");
        run.flats(1, 1, 1).households(1, 1, 9).numbers(1).due("round()", 0).list(0, 0)
            .due("round()", 1).act("appeal(0, 0)", 0).due("household(0, 3)", 0)
            .due("decline(0)", 0).act("appeal(0, 0)", 101).due("household(0, 3)", 1);
    }

    private static void stoodWithoutAFlat() {
        String words = "and stood in the order of a round, at least once, without a flat behind that";
        // No round; a round in which it gets one; a round in which it holds one already.
        Run never = Run.of(HEADING, words);
        never.flats(1, 1, 1).households(1, 1, 9).list(0, 0).numbers(1).act("appeal(0, 0)", 0)
            .due("round()", 1).due("round()", 0).due("household(0, 9)", 0).due("moveOut(0)", 0)
            .act("appeal(0, 0)", 0).due("household(0, 3)", 0);
        // Once, and twice; that a flat came between does no harm.
        Run once = Run.of(HEADING, words);
        once.flats(1, 1, 1).households(2, 1, 9).numbers(1, 2).due("round()", 0)
            .due("household(0, 9)", 1).act("appeal(0, 0)", 101).due("round()", 0)
            .due("household(0, 9)", 2).act("appeal(0, 0)", 102).list(1, 0).due("round()", 1)
            .due("moveOut(1)", 0).due("household(1, 9)", 2).due("household(0, 9)", 3)
            .act("appeal(1, 0)", 101);
    }

    private static void holdsAFlat() {
        Run run = Run.of(HEADING, "1 it is crowded: it holds a flat");
        run.flats(1, 1, 1).households(1, 1, 9).list(0, 0).numbers(1)
            .due("change(0, false, 9)", 1).act("appeal(0, 1)", 0).due("change(0, false, 1)", 9)
            .due("round()", 1).due("change(0, false, 9)", 1).due("moveOut(0)", 0)
            .act("appeal(0, 1)", 0).due("count(9)", 2).due("household(0, 3)", 0);
    }

    private static void membersMoreThanRooms() {
        for (int rooms = 1; rooms <= 5; rooms++) {
            Run run = Run.of(HEADING, "and its members are more than the rooms and 1 together");
            run.due("addFlat(" + rooms + ", 1)", 0).households(1, rooms, 9).list(0, 0).numbers(1)
                .due("round()", 1).due("change(0, false, " + (rooms + 1) + ")", rooms)
                .act("appeal(0, 1)", 0).due("change(0, false, " + (rooms + 2) + ")", rooms + 1)
                .act("appeal(0, 1)", 102).due("household(0, 3)", 2);
        }
        // It need not be on its list, nor need it be eligible for it.
        Run off = Run.of(HEADING, "1 it is crowded: it holds a flat");
        off.settled(1).due("change(0, false, 2)", 1).act("appeal(0, 1)", 0)
            .due("change(0, false, 3)", 2).due("flat(0, 4)", 0).act("appeal(0, 1)", 102);
    }

    private static void standsInTheOrder() {
        Run run = Run.of(HEADING, "2 it is wronged: it stands in the order");
        run.settled(1).households(1, 1, 9).list(1, 0).due("envies(1, 0)", 1).act("appeal(1, 2)", 0)
            .due("draw(0, 999)", 1).act("appeal(1, 2)", 0).due("count(9)", 2);
        Run stands = Run.of(HEADING, "2 it is wronged: it stands in the order");
        stands.settled(1).households(1, 1, 9).list(1, 0).due("draw(0, 999)", 1)
            .due("draw(1, 998)", 2).act("appeal(1, 2)", 103);
    }

    private static void behindByNumber() {
        String words = "there is a household that stands behind it in the order";
        // The next place, ahead and behind.
        Run next = Run.of(HEADING, words);
        next.settled(2).list(0, 1).list(1, 0).act("appeal(1, 2)", 0).act("appeal(0, 2)", 103);
        // The first one and the last one of twelve.
        Run far = Run.of(HEADING, words);
        far.settled(12).list(0, 11).list(11, 0).act("appeal(11, 2)", 0).act("appeal(0, 2)", 103);
        // It is enough that one of several stands behind it.
        Run some = Run.of(HEADING, words);
        some.settled(4).list(1, 0).act("appeal(1, 2)", 0).list(1, 3).act("appeal(1, 2)", 103);
    }

    private static void behindByPoints() {
        // Number 2 is wronged by number 1 as soon as it has more points.
        Run run = Run.of(HEADING, "stands behind it in the order");
        run.flats(1, 1, 1).households(2, 1, 9).list(0, 0).list(1, 0).numbers(1, 2).due("round()", 1)
            .due("envies(1, 0)", 1).due("appeal(1, 0)", 101).due("envies(1, 0)", 2)
            .act("appeal(1, 2)", 104);
        // With the same points, the numbers tell.
        Run same = Run.of(HEADING, "stands behind it in the order");
        same.households(2, 1, 9).numbers(1, 2).due("round()", 0).due("appeal(0, 0)", 101)
            .flats(1, 1, 1).list(0, 0).list(1, 0).due("round()", 1).due("appeal(1, 0)", 101)
            .orderIs(0, 1).act("appeal(1, 2)", 1);
    }

    private static void wishesMore() {
        String words = "and holds a flat that it wishes more than the one that it holds (if any)";
        // Its own one ahead of the other, just behind it, and off the list.
        Run ahead = Run.of(HEADING, words);
        ahead.settled(2).list(0, 0, 1).act("appeal(0, 2)", 0).due("unwish(0, 0)", 0).list(0, 0)
            .listIs(0, 1, 0).act("appeal(0, 2)", 103);
        Run off = Run.of(HEADING, words);
        off.settled(2).act("appeal(0, 2)", 0).list(0, 1).act("appeal(0, 2)", 103);
        // A flat that is free wrongs nobody.
        Run free = Run.of(HEADING, words);
        free.settled(2).list(0, 1, 0).due("moveOut(1)", 1).act("appeal(0, 2)", 0);
    }

    private static void wishesMoreThanNone() {
        Run run = Run.of(HEADING, "(if any)");
        run.settled(2).due("moveOut(0)", 0).act("appeal(0, 2)", 0).list(0, 1)
            .act("appeal(0, 2)", 103);
    }

    private static void eligibleForIt() {
        // The one flat has 2 rooms and a rent of 100; each bound, just kept and just not.
        int[][] members = {{4, 103}, {5, 0}, {1, 103}};
        for (int[] row : members) {
            crowdedOut().due("change(0, false, " + row[0] + ")", 2).act("appeal(0, 2)", row[1]);
        }
        crowdedOut().due("change(0, true, 300)", 900).act("appeal(0, 2)", 103);
        crowdedOut().due("change(0, true, 299)", 900).act("appeal(0, 2)", 0);
        Run rooms = Run.of(HEADING, "and for which it is eligible");
        rooms.due("addFlat(3, 1)", 0).households(2, 2, 9).list(0, 0).list(1, 0)
            .due("draw(1, 9)", 1).due("round()", 1).due("draw(0, 8)", 2).due("change(0, false, 1)", 2)
            .act("appeal(0, 2)", 0).due("change(0, false, 2)", 1).act("appeal(0, 2)", 103);
    }

    /** Household 1 holds the flat that 0, which drew the better number later, wishes. */
    private static Run crowdedOut() {
        return Run.of(HEADING, "and for which it is eligible").due("addFlat(2, 100)", 0)
            .households(2, 2, 900).list(0, 0).list(1, 0).due("draw(1, 9)", 1).due("round()", 1)
            .due("draw(0, 8)", 2);
    }

    private static void pointsGrow() {
        Run run = Run.of(HEADING,
            "If the reason holds, its points grow by 1 more than the reason's number");
        run.settled(2).households(1, 1, 9).due("draw(2, 3)", 3).due("round()", 0)
            .act("appeal(2, 0)", 101).due("household(2, 3)", 1)
            .due("change(1, false, 3)", 1).act("appeal(1, 1)", 102).due("household(1, 3)", 2)
            .list(0, 1).due("draw(0, 4)", 3).act("appeal(0, 2)", 0).due("household(0, 3)", 0);
        Run wronged = Run.of(HEADING, "its points grow by 1 more than the reason's number");
        wronged.settled(2).list(0, 1).act("appeal(0, 2)", 103).due("household(0, 3)", 3)
            .act("appeal(0, 2)", 106).due("household(0, 3)", 6).due("household(1, 3)", 0);
    }

    private static void refused() {
        Run run = Run.of(HEADING, "otherwise the appeal is refused");
        run.settled(1).due("count(9)", 0);
        for (int reason = 0; reason <= 1; reason++) {
            run.act("appeal(0, " + reason + ")", 0).due("household(0, 3)", 0)
                .due("count(9)", reason + 1);
        }
        // Points that it had stay as they were, and are answered without the 100.
        Run had = Run.of(HEADING, "otherwise the appeal is refused");
        had.settled(1).due("change(0, false, 3)", 1).act("appeal(0, 1)", 102).due("count(9)", 0)
            .act("appeal(0, 0)", 2).due("household(0, 3)", 2).due("count(9)", 1);
    }

    private static void bothCount() {
        Run run = Run.of(HEADING, "Both count as an appeal.");
        run.settled(1).due("change(0, false, 3)", 1).due("appeal(0, 1)", 102)
            .due("household(0, 6)", 1).due("count(8)", 1).due("count(9)", 0).due("appeal(0, 2)", 2)
            .due("household(0, 6)", 2).due("count(8)", 2).due("count(9)", 1)
            .unchanged("appeal(0, 1)", FULL).due("household(0, 4)", 0).due("undo()", 3)
            .due("undo()", 2).due("count(8)", 0).due("household(0, 6)", 0).due("flat(0, 2)", 0)
            .due("undo()", 1).holds(0).due("household(0, 8)", NONE);
    }
}
