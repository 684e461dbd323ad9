/** Promises 19 to 26: what is told. */
public final class ToldTest {
    private static final int UNKNOWN = FlatLottery.UNKNOWN;
    private static final int BAD_VALUE = FlatLottery.BAD_VALUE;
    private static final int NONE = FlatLottery.NONE;

    public static void main(String[] args) {
        flat();
        household();
        wished();
        ordered();
        envies();
        envyWithoutWish();
        wouldGet();
        most();
        count();
        Run.end();
    }

    private static Run housed() {
        return new Run("told").due("addFlat(2, 10)", 0).due("addFlat(3, 20)", 1)
            .households(1, 2, 900).households(1, 4, 30).households(1, 6, 60)
            .list(0, 1, 0).list(1, 0).list(2, 0, 1).due("draw(2, 7)", 1).due("draw(1, 8)", 2)
            .due("round()", 2);
    }

    private static void flat() {
        housed().unchanged("flat(0, 0)", 2).unchanged("flat(1, 0)", 3).unchanged("flat(0, 1)", 10)
            .unchanged("flat(1, 1)", 20).unchanged("flat(0, 2)", 1).unchanged("flat(1, 2)", 2)
            .unchanged("flat(0, 3)", 7).unchanged("flat(1, 3)", 5)
            .unchanged("flat(0, 4)", 3).unchanged("flat(1, 4)", 5)
            .unchanged("flat(0, 5)", BAD_VALUE).unchanged("flat(0, -1)", BAD_VALUE)
            .unchanged("flat(2, 0)", UNKNOWN).unchanged("flat(-1, 0)", UNKNOWN)
            .unchanged("flat(2, 5)", UNKNOWN).unchanged("flat(-5, -1)", UNKNOWN)
            .due("moveOut(1)", 0).unchanged("flat(0, 2)", NONE);
        new Run("19 flat, bits of twelve").flats(1, 1, 1).households(12, 1, 9).list(11, 0)
            .due("flat(0, 3)", 1 << 11).due("flat(0, 4)", (1 << 12) - 1);
    }

    private static void household() {
        housed().unchanged("household(1, 0)", 4).unchanged("household(1, 1)", 30)
            .unchanged("household(1, 2)", 8).unchanged("household(0, 2)", NONE)
            .unchanged("household(1, 3)", 0).unchanged("household(1, 4)", 0)
            .unchanged("household(0, 4)", NONE).unchanged("household(2, 5)", 2)
            .unchanged("household(1, 6)", 0).unchanged("household(1, 7)", 1)
            .unchanged("household(2, 7)", 0).unchanged("household(0, 7)", NONE)
            .unchanged("household(1, 8)", NONE).unchanged("household(1, 9)", 0)
            .unchanged("household(0, 10)", BAD_VALUE).unchanged("household(0, -1)", BAD_VALUE)
            .unchanged("household(3, 0)", UNKNOWN).unchanged("household(-1, 0)", UNKNOWN)
            .unchanged("household(3, 10)", UNKNOWN)
            .due("appeal(1, 1)", 102).unchanged("household(1, 3)", 2)
            .unchanged("household(1, 6)", 1).unchanged("household(1, 7)", 0)
            .unchanged("household(2, 7)", 1).due("decline(1)", 0).due("round()", 0)
            .unchanged("household(1, 9)", 1).unchanged("household(2, 9)", 0);
    }

    private static void wished() {
        housed().unchanged("wished(0, 0)", 1).unchanged("wished(0, 1)", 0)
            .unchanged("wished(0, 2)", NONE).unchanged("wished(0, 6)", NONE)
            .unchanged("wished(0, 2147483647)", NONE).unchanged("wished(0, -1)", BAD_VALUE)
            .unchanged("wished(0, -2147483648)", BAD_VALUE).unchanged("wished(3, -1)", UNKNOWN)
            .unchanged("wished(-1, 0)", UNKNOWN).unchanged("wished(3, 0)", UNKNOWN);
        new Run("21 wished, six").flats(6, 1, 1).households(1, 1, 1).list(0, 5, 4, 3, 2, 1, 0)
            .unchanged("wished(0, 5)", 0).unchanged("wished(0, 6)", NONE)
            .unchanged("wished(0, 7)", NONE);
    }

    private static void ordered() {
        housed().unchanged("ordered(0)", 2).unchanged("ordered(1)", 1).unchanged("ordered(2)", NONE)
            .unchanged("ordered(-1)", BAD_VALUE).unchanged("ordered(-5)", BAD_VALUE)
            .unchanged("ordered(12)", NONE).unchanged("ordered(2147483647)", NONE);
        Run run = new Run("22 ordered, twelve").households(12, 1, 9);
        for (int household = 0; household < 12; household++) {
            run.due("draw(" + household + ", " + (household * 5 % 12 + 1) + ")", household + 1);
        }
        for (int household = 0; household < 12; household++) {
            run.due("ordered(" + household * 5 % 12 + ")", household);
        }
        // The points go before the numbers, and the most of them first.
        run.due("ordered(12)", NONE).due("round()", 0).due("appeal(3, 0)", 101)
            .due("appeal(7, 0)", 101).due("appeal(7, 0)", 102).due("ordered(0)", 7)
            .due("ordered(1)", 3).due("ordered(2)", 0);
    }

    private static void envies() {
        // 0 holds nothing and has no number; 2 stands ahead of 1.
        Run run = housed();
        run.unchanged("envies(0, 1)", 1).unchanged("envies(0, 2)", 1)
            .unchanged("envies(1, 0)", 0).unchanged("envies(1, 2)", 0)
            .unchanged("envies(2, 1)", 0).unchanged("envies(0, 0)", BAD_VALUE)
            .unchanged("envies(2, 2)", BAD_VALUE).unchanged("envies(3, 0)", UNKNOWN)
            .unchanged("envies(0, 3)", UNKNOWN).unchanged("envies(3, 3)", UNKNOWN)
            .unchanged("envies(-1, -1)", UNKNOWN);
        // Household 2, crowded less, becomes eligible for what it wishes most: just, as it is ahead.
        run.due("change(2, false, 4)", 6).unchanged("envies(2, 1)", 2)
            .unchanged("count(5)", 3).unchanged("count(6)", 1)
            .due("draw(1, 6)", 2).unchanged("envies(2, 1)", 1).unchanged("count(6)", 0)
            .due("draw(0, 1)", 3).unchanged("envies(0, 1)", 2).unchanged("envies(0, 2)", 2)
            .unchanged("count(5)", 3).unchanged("count(6)", 2)
            .due("moveOut(1)", 0).unchanged("envies(0, 1)", 0).unchanged("envies(2, 1)", 0);
        // Points that came after the round make envy just.
        new Run("23 envies, just by points").flats(1, 1, 1).households(2, 1, 9).list(0, 0).list(1, 0)
            .numbers(1, 2).due("round()", 1).due("envies(1, 0)", 1).due("appeal(1, 0)", 101)
            .due("envies(1, 0)", 2).due("count(6)", 1);
    }

    private static void envyWithoutWish() {
        // What isn't on the list is never envied; what is on it is wished more than what isn't.
        new Run("23 envies, off the list").flats(2, 1, 1).households(2, 1, 9).list(0, 0).list(1, 1)
            .numbers(1, 2).due("round()", 2).due("envies(0, 1)", 0).due("unwish(0, 0)", 0)
            .due("envies(0, 1)", 0).list(0, 1).due("envies(0, 1)", 2).list(0, 0)
            .due("envies(0, 1)", 2).due("unwish(0, 1)", 0).due("envies(0, 1)", 0).list(0, 1)
            .due("envies(0, 1)", 0).due("count(5)", 0).due("moveOut(0)", 0)
            .due("envies(0, 1)", 2).due("unwish(0, 1)", 1).due("envies(0, 1)", 0);
    }

    private static void wouldGet() {
        Run run = new Run("24 wouldGet").flats(3, 1, 1).households(4, 1, 9)
            .list(0, 0, 1, 2).list(1, 0, 1).list(2, 0, 1, 2).list(3, 0)
            .due("draw(2, 1)", 1).due("draw(1, 2)", 2).due("draw(0, 3)", 3);
        run.unchanged("wouldGet(2, NONE)", 0).unchanged("wouldGet(1, NONE)", 1)
            .unchanged("wouldGet(0, NONE)", 2).unchanged("wouldGet(3, NONE)", NONE)
            .unchanged("wouldGet(0, 2)", 1).unchanged("wouldGet(0, 1)", 1)
            .unchanged("wouldGet(1, 2)", 0).unchanged("wouldGet(2, 0)", 0)
            .unchanged("wouldGet(0, 3)", 2).unchanged("wouldGet(0, 0)", NONE)
            .unchanged("wouldGet(4, NONE)", UNKNOWN).unchanged("wouldGet(0, 4)", UNKNOWN)
            .unchanged("wouldGet(0, -1)", UNKNOWN).unchanged("wouldGet(0, -4)", UNKNOWN)
            .unchanged("wouldGet(0, -6)", UNKNOWN).unchanged("wouldGet(-5, -5)", UNKNOWN);
        // It makes no difference who holds what.
        run.due("round()", 3).unchanged("wouldGet(1, 2)", 0).unchanged("wouldGet(2, NONE)", 0)
            .due("moveOut(2)", 0).unchanged("wouldGet(1, NONE)", 1)
            .due("draw(3, 999)", 4).unchanged("wouldGet(3, NONE)", NONE)
            .due("change(1, true, 2)", 9).unchanged("wouldGet(1, NONE)", NONE)
            .unchanged("wouldGet(0, NONE)", 1);
        // By points, too.
        new Run("24 wouldGet, by points").flats(1, 1, 1).households(2, 1, 9).list(0, 0).list(1, 0)
            .unchanged("wouldGet(0, NONE)", NONE).numbers(1, 2).due("round()", 1)
            .unchanged("wouldGet(1, NONE)", NONE).due("appeal(1, 0)", 101)
            .unchanged("wouldGet(1, NONE)", 0).unchanged("wouldGet(0, NONE)", NONE)
            .unchanged("wouldGet(0, 1)", 0);
    }

    private static void most() {
        new Run("25 most").unchanged("most()", 0).flats(2, 1, 1).households(3, 1, 9)
            .unchanged("most()", 0).list(0, 0).unchanged("most()", 1).list(1, 0)
            .unchanged("most()", 1).list(0, 1).unchanged("most()", 2).list(2, 0, 1)
            .unchanged("most()", 2).due("change(0, true, 2)", 9).unchanged("most()", 2)
            .due("change(1, true, 2)", 9).unchanged("most()", 1);
        // Who holds what, and who has a number, makes no difference.
        new Run("25 most, others hold").flats(2, 1, 1).households(2, 1, 9).list(0, 0, 1).list(1, 0)
            .due("draw(0, 1)", 1).due("round()", 1).unchanged("most()", 2);
        // Each but the last takes the first of its two flats, until the last makes all move on.
        Run chain = new Run("25 most, a chain of twelve").flats(12, 1, 1).households(12, 1, 9);
        for (int household = 0; household < 11; household++) {
            chain.list(household, household, household + 1);
        }
        chain.due("most()", 11).list(11, 0).unchanged("most()", 12);
        // The first one moves on for the third, and so does the third for the fourth.
        new Run("25 most, moved on twice").flats(6, 1, 1).households(4, 1, 9).list(0, 0, 1)
            .list(1, 3, 5).list(2, 0, 3).list(3, 0).due("most()", 4).due("unwish(1, 5)", 1)
            .due("most()", 3);
        Run crowd = new Run("25 most, twelve want two").flats(12, 1, 1).households(12, 1, 9);
        for (int household = 0; household < 12; household++) {
            crowd.list(household, 3, 7);
        }
        crowd.due("most()", 2).list(5, 0).due("most()", 3);
    }

    private static void count() {
        Run run = housed();
        run.unchanged("count(0)", 2).unchanged("count(1)", 3).unchanged("count(2)", 2)
            .unchanged("count(3)", 1).unchanged("count(4)", 2).unchanged("count(5)", 2)
            .unchanged("count(6)", 0).unchanged("count(7)", 0).unchanged("count(8)", 0)
            .unchanged("count(9)", 0).unchanged("count(10)", 0).unchanged("count(11)", 4)
            .unchanged("count(12)", 0).unchanged("count(13)", BAD_VALUE)
            .unchanged("count(-1)", BAD_VALUE).unchanged("count(-2147483648)", BAD_VALUE)
            .unchanged("count(2147483647)", BAD_VALUE);
        run.due("appeal(1, 1)", 102).due("appeal(2, 1)", 102).due("appeal(0, 1)", 0)
            .unchanged("count(8)", 3).unchanged("count(9)", 1).due("decline(2)", 1)
            .unchanged("count(10)", 1).unchanged("count(2)", 1).text("0:").unchanged("count(12)", 2)
            .due("undo()", 3).unchanged("count(11)", 3).unchanged("count(10)", 0);
    }
}
