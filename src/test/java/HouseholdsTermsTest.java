/** What the document says under HOUSEHOLDS, sentence by sentence, up to its bounds and past them. */
public final class HouseholdsTermsTest {
    private static final String HEADING = "HOUSEHOLDS";
    private static final int UNKNOWN = FlatLottery.UNKNOWN;
    private static final int BAD_VALUE = FlatLottery.BAD_VALUE;
    private static final int FULL = FlatLottery.FULL;
    private static final int NOT_POSSIBLE = FlatLottery.NOT_POSSIBLE;
    private static final int NONE = FlatLottery.NONE;
    /** What envies() answers of one that stands ahead in the order. */
    private static final int JUST = 2;

    public static void main(String[] args) {
        atMostTwelve();
        numberedFromZero();
        members();
        income();
        atMostSixWishes();
        differentWishes();
        mostWishedFirst();
        emptyAtFirst();
        numberInTheDraw();
        noTwoTheSame();
        noNumberAtFirst();
        pointsAtFirst();
        nothingOfAnother();
        membersTwiceTheRooms();
        roomsOneMoreThanMembers();
        everySize();
        rentThreeTimes();
        orderHasThoseWithANumber();
        orderByPoints();
        orderByNumbers();
        wishesMoreThanThoseBehind();
        wishesListedMoreThanAnyOther();
        wishesListedMoreThanNone();
        unlistedNoneMore();
        Run.end();
    }

    private static void atMostTwelve() {
        Run run = Run.of(HEADING, "There are at most 12 households");
        run.due("count(1)", 0);
        for (int household = 0; household < 12; household++) {
            run.act("addHousehold(1, 1)", household).due("count(1)", household + 1);
        }
        run.unchanged("addHousehold(1, 1)", FULL).unchanged("addHousehold(9, 9999)", FULL)
            .due("count(1)", 12);
        run.due("undo()", 3).due("count(1)", 11).act("addHousehold(9, 9999)", 11)
            .unchanged("addHousehold(1, 1)", FULL).due("count(1)", 12);
    }

    private static void numberedFromZero() {
        Run run = Run.of(HEADING, "numbered from 0");
        run.flats(1, 1, 1).unchanged("household(0, 0)", UNKNOWN).unchanged("wish(0, 0)", UNKNOWN)
            .households(1, 7, 9).due("household(0, 0)", 7).unchanged("household(1, 0)", UNKNOWN)
            .unchanged("draw(1, 1)", UNKNOWN).households(11, 8, 9).due("household(11, 0)", 8)
            .unchanged("household(12, 0)", UNKNOWN).unchanged("household(-1, 0)", UNKNOWN)
            .act("wish(11, 0)", 1).unchanged("wish(12, 0)", UNKNOWN)
            .unchanged("wish(-1, 0)", UNKNOWN).act("unwish(11, 0)", 0)
            .unchanged("unwish(12, 0)", UNKNOWN).unchanged("unwish(-1, 0)", UNKNOWN)
            .act("draw(11, 1)", 1).unchanged("draw(12, 2)", UNKNOWN)
            .unchanged("draw(-1, 2)", UNKNOWN).act("change(11, true, 10)", 9)
            .unchanged("change(12, true, 10)", UNKNOWN)
            .unchanged("change(-1, true, 10)", UNKNOWN).act("appeal(11, 0)", 0)
            .unchanged("appeal(12, 0)", UNKNOWN).unchanged("appeal(-1, 0)", UNKNOWN)
            .unchanged("decline(11)", NOT_POSSIBLE).unchanged("decline(12)", UNKNOWN)
            .unchanged("decline(-1)", UNKNOWN).unchanged("moveOut(11)", NONE)
            .unchanged("moveOut(12)", UNKNOWN).unchanged("moveOut(-1)", UNKNOWN)
            .unchanged("wished(11, 0)", NONE).unchanged("wished(12, 0)", UNKNOWN)
            .unchanged("wished(-1, 0)", UNKNOWN).unchanged("envies(0, 11)", 0)
            .unchanged("envies(0, 12)", UNKNOWN).unchanged("envies(12, 0)", UNKNOWN)
            .unchanged("envies(-1, 0)", UNKNOWN).unchanged("envies(0, -1)", UNKNOWN)
            .unchanged("wouldGet(11, 0)", NONE).unchanged("wouldGet(12, 0)", UNKNOWN)
            .unchanged("wouldGet(0, 12)", UNKNOWN).unchanged("wouldGet(-1, 0)", UNKNOWN)
            .unchanged("wouldGet(0, -1)", UNKNOWN);
    }

    private static void members() {
        Run run = Run.of(HEADING, "A household has members (1 to 9)");
        for (int members : new int[] {Integer.MIN_VALUE, -1, 0, 10, 11, Integer.MAX_VALUE}) {
            run.unchanged("addHousehold(" + members + ", 1)", BAD_VALUE);
        }
        for (int members = 1; members <= 9; members++) {
            run.act("addHousehold(" + members + ", 1)", members - 1)
                .due("household(" + (members - 1) + ", 0)", members);
        }
        for (int members : new int[] {Integer.MIN_VALUE, -1, 0, 10, 11, 9999, Integer.MAX_VALUE}) {
            run.unchanged("change(4, false, " + members + ")", BAD_VALUE);
        }
        run.act("change(4, false, 1)", 5).due("household(4, 0)", 1)
            .act("change(4, false, 9)", 1).due("household(4, 0)", 9);
    }

    private static void income() {
        Run run = Run.of(HEADING, "an income (1 to 9999)");
        int[] wrong = {Integer.MIN_VALUE, -1, 0, 10000, 10001, Integer.MAX_VALUE};
        for (int income : wrong) {
            run.unchanged("addHousehold(1, " + income + ")", BAD_VALUE);
        }
        int household = 0;
        for (int income : new int[] {1, 2, 9998, 9999}) {
            run.act("addHousehold(1, " + income + ")", household)
                .due("household(" + household + ", 1)", income);
            household++;
        }
        for (int income : wrong) {
            run.unchanged("change(1, true, " + income + ")", BAD_VALUE);
        }
        run.act("change(1, true, 9999)", 2).due("household(1, 1)", 9999)
            .act("change(1, true, 1)", 9999).due("household(1, 1)", 1);
    }

    private static void atMostSixWishes() {
        Run run = Run.of(HEADING, "a list of at most 6 different flats");
        run.flats(12, 1, 1).households(2, 1, 9);
        for (int place = 0; place < 6; place++) {
            run.act("wish(0, " + (11 - place) + ")", place + 1).due("household(0, 5)", place + 1);
        }
        for (int flat = 0; flat < 6; flat++) {
            run.unchanged("wish(0, " + flat + ")", FULL);
        }
        run.listIs(0, 11, 10, 9, 8, 7, 6).listIs(1).act("wish(1, 0)", 1);
        // A place that became free again is filled again, and no more than that.
        run.act("unwish(0, 9)", 2).act("wish(0, 0)", 6).unchanged("wish(0, 1)", FULL)
            .listIs(0, 11, 10, 8, 7, 6, 0);
        // What a text lays counts as well.
        run.text("1:0,1,2,3,4,5").act("readLists()", 1).unchanged("wish(1, 6)", FULL)
            .listIs(1, 0, 1, 2, 3, 4, 5)
            .text("1:0,1,2,3,4").act("readLists()", 1).act("wish(1, 6)", 6)
            .unchanged("wish(1, 7)", FULL).listIs(1, 0, 1, 2, 3, 4, 6);
    }

    private static void differentWishes() {
        Run run = Run.of(HEADING, "at most 6 different flats");
        run.flats(12, 1, 1).households(2, 1, 9).act("wish(0, 0)", 1)
            .unchanged("wish(0, 0)", NOT_POSSIBLE).act("wish(0, 11)", 2).act("wish(0, 5)", 3)
            .unchanged("wish(0, 0)", NOT_POSSIBLE).unchanged("wish(0, 11)", NOT_POSSIBLE)
            .unchanged("wish(0, 5)", NOT_POSSIBLE).act("wish(1, 0)", 1).act("wish(1, 5)", 2)
            .act("unwish(0, 0)", 0).act("wish(0, 0)", 3).unchanged("wish(0, 0)", NOT_POSSIBLE)
            .listIs(0, 11, 5, 0).list(0, 1, 2).unchanged("wish(0, 2)", NOT_POSSIBLE)
            .unchanged("wish(0, 11)", NOT_POSSIBLE);
    }

    private static void mostWishedFirst() {
        Run run = Run.of(HEADING, "its wishes, the one that it wishes most first");
        run.flats(6, 1, 1).households(1, 1, 9).list(0, 3, 5, 0, 4, 1, 2).numbers(1);
        int[] most = {3, 5, 0, 4, 1, 2};
        for (int flat : most) {
            run.due("wished(0, 0)", flat).due("wouldGet(0, NONE)", flat).act("round()", 1)
                .holds(flat).act("decline(0)", flat);
        }
        run.listIs(0).due("wouldGet(0, NONE)", NONE);
    }

    private static void emptyAtFirst() {
        Run run = Run.of(HEADING, "empty at first");
        run.flats(12, 1, 1).households(1, 1, 9).unchanged("household(0, 5)", 0)
            .unchanged("wished(0, 0)", NONE);
        for (int flat = 0; flat < 12; flat++) {
            run.unchanged("flat(" + flat + ", 3)", 0).unchanged("unwish(0, " + flat + ")", NONE);
        }
        run.due("most()", 0).numbers(1).due("round()", 0).holds(NONE);
    }

    private static void numberInTheDraw() {
        Run run = Run.of(HEADING, "a number in the draw (1 to 999;");
        run.households(2, 1, 9);
        for (int number : new int[] {Integer.MIN_VALUE, -5, -1, 0, 1000, 1001, Integer.MAX_VALUE}) {
            run.unchanged("draw(0, " + number + ")", BAD_VALUE);
        }
        run.due("household(0, 2)", NONE).act("draw(0, 1)", 1).due("household(0, 2)", 1)
            .act("draw(1, 999)", 2).due("household(1, 2)", 999)
            .act("draw(0, 998)", 2).due("household(0, 2)", 998)
            .unchanged("draw(0, 0)", BAD_VALUE).unchanged("draw(0, 1000)", BAD_VALUE)
            .due("household(0, 2)", 998);
    }

    private static void noTwoTheSame() {
        Run run = Run.of(HEADING, "no two have the same");
        run.households(12, 1, 9).due("draw(0, 1)", 1).due("draw(11, 999)", 2)
            .unchanged("draw(11, 1)", NOT_POSSIBLE).unchanged("draw(0, 999)", NOT_POSSIBLE)
            .unchanged("draw(5, 1)", NOT_POSSIBLE).unchanged("draw(5, 999)", NOT_POSSIBLE)
            .unchanged("draw(0, 1)", NONE).unchanged("draw(11, 999)", NONE)
            .act("draw(5, 2)", 3).act("draw(6, 998)", 4);
        // A number that its household gave up is free for another one.
        run.act("draw(0, 3)", 4).act("draw(11, 1)", 4).unchanged("draw(0, 1)", NOT_POSSIBLE)
            .act("draw(0, 999)", 4).orderIs(11, 5, 6, 0);
    }

    private static void noNumberAtFirst() {
        Run run = Run.of(HEADING, "none at first");
        run.households(12, 1, 9).due("household(0, 2)", NONE).due("household(11, 2)", NONE)
            .due("count(4)", 0).unchanged("round()", NOT_POSSIBLE).due("draw(11, 7)", 1)
            .due("household(0, 2)", NONE).due("household(11, 2)", 7).due("count(4)", 1);
    }

    private static void pointsAtFirst() {
        Run run = Run.of(HEADING, "points (0 at first)");
        run.flats(1, 1, 1).households(12, 1, 9).due("household(0, 3)", 0)
            .due("household(11, 3)", 0).list(0, 0).numbers(1).due("round()", 1)
            .due("household(0, 3)", 0).due("decline(0)", 0).due("household(0, 3)", 0)
            .due("appeal(11, 0)", 0).due("household(11, 3)", 0);
    }

    /** What is so at first is so in the place of a household that was taken back, too. */
    private static void nothingOfAnother() {
        Run run = Run.of(HEADING, "a number in the draw (1 to 999; no two have the same; none at "
            + "first), and points (0 at first)");
        run.flats(2, 1, 1).due("keep()", 0).households(1, 1, 9).numbers(7).due("round()", 0)
            .due("appeal(0, 0)", 101).list(0, 1, 0).due("round()", 1).due("restore()", 0)
            .due("addHousehold(2, 8)", 0).due("household(0, 0)", 2).due("household(0, 1)", 8)
            .eachUnchanged(NONE, "household(0, 2)", "household(0, 4)", "household(0, 7)",
                "household(0, 8)", "flat(0, 2)", "flat(1, 2)")
            .eachUnchanged(0, "household(0, 3)", "household(0, 5)", "household(0, 6)",
                "household(0, 9)", "count(2)", "count(4)", "count(8)", "flat(1, 3)")
            .listIs(0);
        Run undone = Run.of(HEADING, "empty at first");
        undone.flats(1, 1, 1).households(1, 1, 9).list(0, 0).due("draw(0, 1)", 1).due("undo()", 3)
            .due("undo()", 2).due("undo()", 1).due("count(1)", 0).households(1, 1, 9)
            .due("household(0, 2)", NONE).listIs(0).act("wish(0, 0)", 1);
    }

    /** Whether the one household may have the one flat, told in each way there is. */
    private static Run may(Run run, boolean eligible) {
        return run.due("flat(0, 4)", eligible ? 1 : 0).due("most()", eligible ? 1 : 0)
            .due("wouldGet(0, NONE)", eligible ? 0 : NONE)
            .act("round()", eligible ? 1 : 0).holds(eligible ? 0 : NONE)
            .due("flat(0, 2)", eligible ? 0 : NONE).due("undo()", 3);
    }

    private static void membersTwiceTheRooms() {
        for (int rooms = 1; rooms <= 4; rooms++) {
            Run run = Run.of(HEADING, "its members are at most twice the rooms");
            run.due("addFlat(" + rooms + ", 1)", 0).households(1, 2 * rooms, 3).list(0, 0).numbers(1);
            may(run, true).due("change(0, false, " + (2 * rooms + 1) + ")", 2 * rooms);
            may(run, false);
        }
        Run five = Run.of(HEADING, "its members are at most twice the rooms");
        may(five.due("addFlat(5, 1)", 0).households(1, 9, 3).list(0, 0).numbers(1), true);
    }

    private static void roomsOneMoreThanMembers() {
        for (int members = 1; members <= 3; members++) {
            Run run = Run.of(HEADING, "the rooms are at most its members plus 1");
            run.due("addFlat(" + (members + 2) + ", 1)", 0).households(1, members + 1, 3).list(0, 0)
                .numbers(1);
            may(run, true).due("change(0, false, " + members + ")", members + 1);
            may(run, false);
        }
        Run one = Run.of(HEADING, "the rooms are at most its members plus 1");
        may(one.due("addFlat(2, 1)", 0).households(1, 1, 3).list(0, 0).numbers(1), true);
    }

    private static void everySize() {
        // Behind each number of rooms, the members from 1 to 9 that are eligible.
        String[] eligible = {"110000000", "111100000", "011111000", "001111110", "000111111"};
        Run run = Run.of(HEADING, "its members are at most twice the rooms, the rooms are at most its "
            + "members plus 1, and 3 times the rent is at most its income");
        for (int rooms = 1; rooms <= 5; rooms++) {
            run.due("addFlat(" + rooms + ", 1)", rooms - 1);
        }
        for (int members = 1; members <= 9; members++) {
            run.due("addHousehold(" + members + ", 3)", members - 1);
        }
        for (int rooms = 1; rooms <= 5; rooms++) {
            int bits = 0;
            for (int members = 1; members <= 9; members++) {
                bits |= eligible[rooms - 1].charAt(members - 1) == '1' ? 1 << (members - 1) : 0;
            }
            run.unchanged("flat(" + (rooms - 1) + ", 4)", bits);
        }
    }

    private static void rentThreeTimes() {
        for (int rent : new int[] {1, 2, 333, 998, 999}) {
            Run run = Run.of(HEADING, "3 times the rent is at most its income");
            run.due("addFlat(1, " + rent + ")", 0).households(1, 1, 3 * rent).list(0, 0).numbers(1);
            may(run, true).due("change(0, true, " + (3 * rent - 1) + ")", 3 * rent);
            may(run, false).due("change(0, true, " + (3 * rent + 1) + ")", 3 * rent - 1);
            may(run, true).due("change(0, true, 9999)", 3 * rent + 1);
            may(run, true);
        }
    }

    private static void orderHasThoseWithANumber() {
        Run run = Run.of(HEADING, "The order of the households has all that have a number");
        run.unchanged("ordered(0)", NONE).flats(1, 1, 1).households(12, 1, 9)
            .unchanged("ordered(0)", NONE).unchanged("household(0, 7)", NONE)
            .list(11, 0).due("draw(11, 5)", 1).orderIs(11).due("household(11, 7)", 0)
            .due("household(0, 7)", NONE).due("draw(0, 6)", 2).orderIs(11, 0);
        // Those who hold a flat stand in it as well.
        run.due("round()", 1).due("household(11, 4)", 0).orderIs(11, 0);
        for (int household = 1; household <= 10; household++) {
            run.due("household(" + household + ", 7)", NONE)
                .due("draw(" + household + ", " + (20 - household) + ")", household + 2);
        }
        run.orderIs(11, 0, 10, 9, 8, 7, 6, 5, 4, 3, 2, 1).due("household(1, 7)", 11);
    }

    private static void orderByPoints() {
        Run run = Run.of(HEADING, "by their points, the most first");
        run.due("addFlat(1, 1)", 0).households(4, 3, 9).numbers(1, 2, 998, 999).orderIs(0, 1, 2, 3)
            .due("round()", 0).due("appeal(3, 0)", 101).orderIs(3, 0, 1, 2)
            .due("appeal(2, 0)", 101).due("appeal(2, 0)", 102).orderIs(2, 3, 0, 1)
            .due("appeal(3, 0)", 102).orderIs(2, 3, 0, 1).due("appeal(1, 0)", 101)
            .orderIs(2, 3, 1, 0).due("household(2, 7)", 0).due("household(3, 7)", 1)
            .due("household(1, 7)", 2).due("household(0, 7)", 3);
        // One point fewer sets it back again.
        run.due("change(2, false, 2)", 3).list(2, 0).due("round()", 1).due("decline(2)", 0)
            .due("household(2, 3)", 1).orderIs(3, 1, 2, 0);
    }

    private static void orderByNumbers() {
        Run run = Run.of(HEADING, "then by their numbers, the least first");
        run.households(4, 1, 9).due("draw(0, 999)", 1).orderIs(0).due("draw(1, 998)", 2)
            .orderIs(1, 0).due("draw(2, 2)", 3).orderIs(2, 1, 0).due("draw(3, 1)", 4)
            .orderIs(3, 2, 1, 0);
        // With the same points, which are not 0, too; and another number sets it elsewhere.
        run.due("round()", 0).due("appeal(0, 0)", 101).due("appeal(2, 0)", 101)
            .due("appeal(1, 0)", 101).orderIs(2, 1, 0, 3).due("draw(2, 1000)", BAD_VALUE)
            .orderIs(2, 1, 0, 3).due("draw(0, 997)", 4).orderIs(2, 0, 1, 3)
            .due("draw(2, 999)", 4).orderIs(0, 1, 2, 3);
    }

    private static void wishesMoreThanThoseBehind() {
        // Household 0 holds flat 0, household i flat i; at each place of its list stands its own.
        int[][] lists = {{0, 1, 2, 3, 4, 5}, {1, 0, 2, 3, 4, 5}, {1, 2, 3, 0, 4, 5},
            {1, 2, 3, 4, 5, 0}};
        for (int[] list : lists) {
            Run run = Run.of(HEADING,
                "A household wishes a flat on its list more than those behind it on the list");
            run.settled(7).list(0, list);
            boolean ahead = true;
            for (int flat : list) {
                ahead = ahead && flat != 0;
                if (flat != 0) {
                    run.due("envies(0, " + flat + ")", ahead ? JUST : 0);
                }
            }
            run.due("envies(0, 6)", 0).due("household(0, 8)", list[0] == 0 ? NONE : list[0]);
        }
    }

    private static void wishesListedMoreThanAnyOther() {
        Run run = Run.of(HEADING, "and all flats on its list more than any other flat");
        run.settled(8).list(0, 1, 2, 3, 4, 5, 6);
        for (int other = 1; other <= 6; other++) {
            run.due("envies(0, " + other + ")", JUST);
        }
        run.due("envies(0, 7)", 0).due("count(5)", 6);
    }

    private static void wishesListedMoreThanNone() {
        Run run = Run.of(HEADING, "and than none");
        run.settled(8).list(0, 1, 2, 3, 4, 5, 6).due("moveOut(0)", 0);
        for (int other = 1; other <= 6; other++) {
            run.due("envies(0, " + other + ")", JUST);
        }
        run.due("envies(0, 7)", 0).due("count(5)", 6);
    }

    private static void unlistedNoneMore() {
        Run run = Run.of(HEADING,
            "(Of flats that are not on its list it wishes none more than another.)");
        run.settled(3).due("envies(0, 1)", 0).due("envies(1, 0)", 0).due("count(5)", 0)
            .due("household(0, 8)", NONE).unchanged("swap()", NONE);
        // Nor more than none: neither a round nor envy looks at them.
        run.due("moveOut(0)", 0).due("envies(0, 1)", 0).due("count(5)", 0).act("round()", 0)
            .holds(NONE, 1, 2).due("wouldGet(0, NONE)", NONE).due("most()", 0);
        // Its own one, taken off the list, is no better than the others that are not on it.
        Run own = Run.of(HEADING, "it wishes none more than another");
        own.settled(3).list(0, 0, 1).due("envies(0, 1)", 0).due("unwish(0, 0)", 0)
            .due("envies(0, 1)", JUST).due("envies(0, 2)", 0).due("unwish(0, 1)", 0)
            .due("envies(0, 1)", 0);
    }
}
