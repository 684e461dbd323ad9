/** Promises 9, 10, 11 and 13: rounds, flats that are declined, appeals, moving out. */
public final class RoundsTest {
    private static final int UNKNOWN = FlatLottery.UNKNOWN;
    private static final int BAD_VALUE = FlatLottery.BAD_VALUE;
    private static final int FULL = FlatLottery.FULL;
    private static final int NOT_POSSIBLE = FlatLottery.NOT_POSSIBLE;
    private static final int NONE = FlatLottery.NONE;

    public static void main(String[] args) {
        eligibility();
        round();
        roundByPoints();
        decline();
        appealErrors();
        passedOver();
        crowded();
        wronged();
        moveOut();
        Run.end();
    }

    private static void eligibility() {
        // Twice the rooms, one room more than members, and three times the rent: just so, and past.
        Run run = new Run("terms: eligible").due("addFlat(2, 100)", 0);
        run.households(1, 4, 300).households(1, 5, 300).households(1, 1, 300)
            .households(1, 4, 299).households(1, 4, 9999).due("flat(0, 4)", 0b10101);
        run.due("addFlat(3, 100)", 1).due("flat(1, 4)", 0b10011);
        run.due("addFlat(5, 3333)", BAD_VALUE).due("addFlat(5, 999)", 2).due("flat(2, 4)", 0b10000);
        run.due("change(1, true, 2997)", 300).due("flat(2, 4)", 0b10010)
            .due("change(1, true, 2996)", 2997).due("flat(2, 4)", 0b10000);
        // A flat that a household isn't eligible for is passed on its list.
        new Run("9 round, not eligible").due("addFlat(5, 1)", 0).due("addFlat(1, 99)", 1)
            .due("addFlat(1, 9)", 2).households(1, 1, 30).list(0, 0, 1, 2).numbers(1)
            .due("round()", 1).holds(2);
    }

    private static void round() {
        Run run = new Run("9 round").flats(3, 1, 1).households(4, 1, 9)
            .list(0, 0, 1).list(1, 0).list(2, 0, 2).list(3, 0, 1, 2);
        run.unchanged("round()", NOT_POSSIBLE);
        run.due("draw(0, 30)", 1).due("draw(1, 20)", 2).due("draw(2, 10)", 3)
            .act("round()", 2).holds(1, NONE, 0, NONE)
            .due("count(2)", 2).due("count(3)", 1)
            .due("household(0, 9)", 0).due("household(1, 9)", 1)
            .due("household(2, 9)", 0).due("household(3, 9)", 0);
        // The next round: those who hold a flat keep it, though a better one became free.
        run.due("moveOut(2)", 0).due("draw(3, 5)", 4).act("round()", 2)
            .holds(1, NONE, 2, 0).due("count(3)", 2).due("household(1, 9)", 2)
            .act("round()", 0).due("count(3)", 3).due("household(1, 9)", 3)
            .due("household(0, 9)", 0);
        // What is held already isn't given again, be its holder the first one or the last.
        new Run("9 round, held already").flats(2, 1, 1).households(3, 1, 9).list(0, 0).list(2, 1)
            .due("draw(0, 5)", 1).due("draw(2, 6)", 2).due("round()", 2).list(1, 0, 1)
            .due("draw(1, 1)", 3).act("round()", 0).holds(0, NONE, 1);
        new Run("9 round, empty lists").flats(1, 1, 1).households(1, 1, 9).numbers(9)
            .act("round()", 0).holds(NONE).due("household(0, 9)", 1);
        new Run("9 round, no flats").households(1, 1, 9).numbers(9).act("round()", 0);
        // One that wishes the flat first, but has no number, stands aside.
        new Run("9 round, no number").flats(1, 1, 1).households(2, 1, 9).list(0, 0).list(1, 0)
            .due("draw(1, 9)", 1).act("round()", 1).holds(NONE, 0).due("household(0, 9)", 0);
    }

    private static void roundByPoints() {
        Run run = new Run("9 round, by points").flats(2, 1, 1).households(3, 1, 9)
            .list(0, 0).list(1, 0).list(2, 0).numbers(1, 2, 3);
        run.due("round()", 1).holds(0, NONE, NONE)
            .due("appeal(2, 0)", 101).due("ordered(0)", 2).due("ordered(1)", 0)
            .due("ordered(2)", 1).due("moveOut(0)", 0).act("round()", 1).holds(NONE, NONE, 0);
    }

    private static void decline() {
        Run run = new Run("10 decline").flats(3, 1, 1).households(2, 1, 9)
            .list(0, 1, 0, 2).numbers(1, 2);
        run.unchanged("decline(2)", UNKNOWN).unchanged("decline(-1)", UNKNOWN)
            .unchanged("decline(-5)", UNKNOWN).unchanged("decline(0)", NOT_POSSIBLE)
            .due("round()", 1).act("decline(0)", 1).holds(NONE, NONE).listIs(0, 0, 2)
            .due("flat(1, 2)", NONE).due("flat(1, 3)", 0).due("household(0, 3)", 0)
            .due("count(10)", 1).unchanged("decline(0)", NOT_POSSIBLE).due("count(10)", 1)
            .due("round()", 1).holds(0).act("decline(0)", 0).listIs(0, 2).due("count(10)", 2);
        // A flat that is not on its list any more, and points that become one fewer.
        new Run("10 decline, off its list").flats(1, 1, 1).households(1, 2, 9).list(0, 0).numbers(1)
            .due("round()", 1).due("change(0, false, 4)", 2).due("appeal(0, 1)", 102)
            .due("unwish(0, 0)", 0).act("decline(0)", 0).listIs(0).due("household(0, 3)", 1)
            .due("household(0, 6)", 1);
        new Run("10 decline, down to 0").flats(2, 1, 1).households(1, 1, 9).numbers(1)
            .due("round()", 0).due("appeal(0, 0)", 101).list(0, 0, 1)
            .due("round()", 1).act("decline(0)", 0).due("household(0, 3)", 0)
            .due("round()", 1).act("decline(0)", 1).due("household(0, 3)", 0).due("count(10)", 2);
    }

    private static void appealErrors() {
        Run run = new Run("11 appeal").households(2, 1, 9);
        run.unchanged("appeal(2, 0)", UNKNOWN).unchanged("appeal(-1, 3)", UNKNOWN)
            .unchanged("appeal(2, -1)", UNKNOWN)
            .unchanged("appeal(0, 3)", BAD_VALUE).unchanged("appeal(0, -1)", BAD_VALUE)
            .act("appeal(0, 0)", 0).act("appeal(0, 2)", 0).unchanged("appeal(0, 1)", FULL)
            .unchanged("appeal(0, 3)", BAD_VALUE).due("household(0, 6)", 2)
            .due("household(1, 6)", 0).due("count(8)", 2).due("count(9)", 2)
            .act("appeal(1, 1)", 0).due("count(8)", 3).due("count(9)", 3);
    }

    private static void passedOver() {
        Run run = new Run("11 appeal, passed over").flats(1, 1, 1).households(3, 1, 9)
            .list(0, 0).list(1, 0).list(2, 0).due("draw(0, 1)", 1).due("draw(1, 2)", 2);
        run.act("appeal(1, 0)", 0).due("round()", 1).act("appeal(1, 0)", 101)
            .due("household(1, 3)", 1).unchanged("appeal(1, 0)", FULL)
            .act("appeal(0, 0)", 0).due("draw(2, 3)", 3).act("appeal(2, 0)", 0)
            .due("count(8)", 4).due("count(9)", 3);
        // It has to be without a flat still, once is enough, and a flat between does no harm.
        new Run("11 appeal, passed over, and housed then").flats(1, 1, 1).households(1, 1, 9)
            .numbers(1).due("round()", 0).list(0, 0).due("round()", 1).act("appeal(0, 0)", 0)
            .due("moveOut(0)", 0).act("appeal(0, 0)", 101).due("count(9)", 1);
    }

    private static void crowded() {
        Run run = new Run("11 appeal, crowded").flats(1, 2, 1).households(2, 3, 9).list(0, 0);
        run.numbers(5).act("appeal(0, 1)", 0).due("round()", 1).act("appeal(0, 1)", 0)
            .due("change(0, false, 9)", 3).unchanged("appeal(0, 1)", FULL);
        new Run("11 appeal, crowded by one").flats(1, 2, 1).households(1, 4, 9).list(0, 0)
            .numbers(5).due("round()", 1).act("appeal(0, 1)", 102).act("appeal(0, 1)", 104)
            .due("household(0, 3)", 4).due("count(9)", 0).due("count(8)", 2);
        new Run("11 appeal, crowded no more").flats(1, 2, 1).households(1, 4, 9).list(0, 0)
            .numbers(5).due("round()", 1).due("moveOut(0)", 0).act("appeal(0, 1)", 0);
    }

    private static void wronged() {
        // Household 1 drew better only after the round; 2 has no number at all.
        Run run = new Run("11 appeal, wronged").flats(2, 1, 1).households(3, 1, 9)
            .list(0, 0).list(1, 0, 1).list(2, 0).due("draw(0, 10)", 1).due("draw(1, 20)", 2);
        run.due("round()", 2).holds(0, 1).act("appeal(1, 2)", 0).act("appeal(2, 2)", 0)
            .due("draw(1, 5)", 2).act("appeal(1, 2)", 103).due("count(9)", 2)
            .due("household(1, 3)", 3).due("ordered(0)", 1);
        // Not behind the other one, not without a number, not for a flat it isn't eligible for.
        Run out = new Run("11 appeal, not wronged").flats(1, 1, 1)
            .due("keep()", 0).households(3, 1, 9).list(0, 0).list(1, 0).list(2, 0);
        out.due("draw(0, 10)", 1).due("round()", 1).due("draw(1, 20)", 2)
            .act("appeal(1, 2)", 0).act("appeal(2, 2)", 0).due("appeal(0, 2)", 0)
            .due("draw(1, 9)", 2).due("change(1, true, 2)", 9).act("appeal(1, 2)", 0)
            .due("count(9)", 4);
        Run full = new Run("11 appeal, twelve, and nobody wronged").flats(1, 1, 1)
            .households(12, 1, 9).list(11, 0).due("draw(11, 2)", 1).due("round()", 1);
        full.act("appeal(0, 2)", 0).list(0, 0).act("appeal(0, 2)", 0).due("draw(1, 1)", 2)
            .act("appeal(1, 2)", 0).list(1, 0).act("appeal(1, 2)", 103);
        new Run("11 appeal, wronged without a flat").flats(1, 1, 1).households(2, 1, 9)
            .list(0, 0).list(1, 0).due("draw(0, 10)", 1).due("round()", 1)
            .due("draw(1, 9)", 2).act("appeal(1, 2)", 103).act("appeal(1, 2)", 106)
            .due("household(1, 3)", 6);
    }

    private static void moveOut() {
        Run run = new Run("13 moveOut").flats(2, 1, 1).households(1, 3, 9).due("change(0, false, 2)", 3)
            .list(0, 1, 0).numbers(4);
        run.unchanged("moveOut(1)", UNKNOWN).unchanged("moveOut(-1)", UNKNOWN)
            .unchanged("moveOut(0)", NONE).due("round()", 1)
            .due("change(0, false, 3)", 2).due("appeal(0, 1)", 102).act("moveOut(0)", 1).holds(NONE)
            .due("flat(1, 2)", NONE).due("household(0, 3)", 2).listIs(0, 1, 0)
            .due("household(0, 2)", 4).due("count(10)", 0).due("count(2)", 0)
            .unchanged("moveOut(0)", NONE);
    }
}
