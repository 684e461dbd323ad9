/** What the document says under A ROUND, sentence by sentence, up to its bounds and past them. */
public final class RoundTermsTest {
    private static final String HEADING = "A ROUND";
    private static final int NOT_POSSIBLE = FlatLottery.NOT_POSSIBLE;
    private static final int NONE = FlatLottery.NONE;

    public static void main(String[] args) {
        nobodyInTheOrder();
        oneAfterTheOther();
        oneAfterTheOtherByPoints();
        onlyThoseOfTheOrder();
        holdsAlready();
        firstFreeOfItsList();
        heldByOneBehind();
        eligible();
        noneIfThereIsNone();
        Run.end();
    }

    private static void nobodyInTheOrder() {
        Run run = Run.of("## Promise 9: round", "NOT_POSSIBLE if no household has a number");
        run.unchanged("round()", NOT_POSSIBLE).flats(1, 1, 1).households(12, 1, 9).list(0, 0)
            .unchanged("round()", NOT_POSSIBLE).due("count(3)", 0).due("draw(11, 999)", 1)
            .act("round()", 0).due("count(3)", 1);
    }

    private static void oneAfterTheOther() {
        Run run = Run.of(HEADING,
            "the households of the order are looked at, one after the other");
        run.flats(12, 1, 1).households(12, 1, 9);
        // Each wishes the flats of all who stand ahead of it, as far as its list goes.
        for (int household = 0; household < 12; household++) {
            for (int place = 0; place < 6; place++) {
                run.due("wish(" + household + ", " + (household / 6 * 6 + place) + ")", place + 1);
            }
            run.due("draw(" + household + ", " + (999 - household) + ")", household + 1);
        }
        run.act("round()", 12).holds(5, 4, 3, 2, 1, 0, 11, 10, 9, 8, 7, 6)
            .due("count(2)", 12).act("round()", 0);
    }

    private static void oneAfterTheOtherByPoints() {
        Run run = Run.of(HEADING, "the households of the order are looked at");
        run.households(3, 1, 9).numbers(1, 2, 3).due("round()", 0).due("appeal(2, 0)", 101)
            .flats(2, 1, 1).list(0, 0, 1).list(1, 0, 1).list(2, 0, 1).orderIs(2, 0, 1)
            .act("round()", 2).holds(1, NONE, 0);
    }

    private static void onlyThoseOfTheOrder() {
        Run run = Run.of(HEADING, "In a round, the households of the order are looked at");
        run.flats(2, 1, 1).households(3, 1, 9).list(0, 0).list(1, 0, 1).list(2, 1)
            .due("draw(1, 999)", 1).act("round()", 1).holds(NONE, 0, NONE)
            .due("household(0, 9)", 0).due("household(2, 9)", 0).due("draw(0, 1)", 2)
            .act("round()", 0).holds(NONE, 0, NONE).due("household(0, 9)", 1)
            .due("household(2, 9)", 0).due("draw(2, 998)", 3).act("round()", 1).holds(NONE, 0, 1);
    }

    private static void holdsAlready() {
        Run run = Run.of(HEADING, "one that holds no flat gets");
        run.settled(2).list(0, 1, 0).list(1, 1, 0).act("round()", 0).holds(0, 1)
            .due("moveOut(1)", 1).due("draw(1, 999)", 2);
        // Household 0 would take flat 1, which is free now; but it holds flat 0, and keeps it.
        run.act("round()", 1).holds(0, 1).due("household(0, 9)", 0).due("household(1, 9)", 0);
        // One whose own flat is not on its list keeps it, too.
        Run off = Run.of(HEADING, "one that holds no flat gets");
        off.settled(1).flats(1, 1, 1).list(0, 1).act("round()", 0).holds(0)
            .due("flat(1, 2)", NONE).due("moveOut(0)", 0).act("round()", 1).holds(1);
    }

    private static void firstFreeOfItsList() {
        // The households 0 to 5 hold the flats 0 to 5; so many of them have moved out, from the last.
        for (int free = 0; free <= 6; free++) {
            Run run = Run.of(HEADING, "the first flat of its list that is free");
            run.settled(6).households(1, 1, 9).due("draw(6, 999)", 7).list(6, 0, 1, 2, 3, 4, 5);
            for (int left = 0; left < free; left++) {
                run.due("moveOut(" + (5 - left) + ")", 5 - left);
            }
            run.act("round()", free == 0 ? 0 : 1).due("household(6, 4)", free == 0 ? NONE : 6 - free)
                .due("household(6, 9)", free == 0 ? 1 : 0);
        }
    }

    private static void heldByOneBehind() {
        // What one behind it in the order holds since an earlier round is not free.
        Run run = Run.of(HEADING, "that is free");
        run.flats(2, 1, 1).households(2, 1, 9).list(1, 0).due("draw(1, 999)", 1).due("round()", 1)
            .list(0, 0, 1).due("draw(0, 1)", 2).orderIs(0, 1).act("round()", 1).holds(1, 0)
            .due("flat(0, 2)", 1).due("flat(1, 2)", 0);
    }

    private static void eligible() {
        // Just too many rooms, too few, and too dear, and then one that is just right.
        Run run = Run.of(HEADING, "and for which it is eligible");
        run.due("addFlat(5, 1)", 0).due("addFlat(1, 1)", 1).due("addFlat(2, 101)", 2)
            .due("addFlat(4, 100)", 3).households(1, 3, 302).list(0, 0, 1, 2, 3).numbers(1)
            .act("round()", 1).holds(3).due("moveOut(0)", 3).due("change(0, true, 303)", 302)
            .act("round()", 1).holds(2).due("moveOut(0)", 2).due("change(0, false, 2)", 3)
            .act("round()", 1).holds(1).due("moveOut(0)", 1).due("change(0, false, 4)", 2)
            .act("round()", 1).holds(0);
        // It keeps what it holds, though it isn't eligible any more.
        run.due("change(0, true, 1)", 303).act("round()", 0).holds(0);
    }

    private static void noneIfThereIsNone() {
        Run run = Run.of(HEADING, "if there is one");
        run.households(3, 1, 2).numbers(1, 2, 3).act("round()", 0).holds(NONE, NONE, NONE)
            .flats(1, 1, 1).act("round()", 0).holds(NONE, NONE, NONE).list(0, 0).list(1, 0)
            .act("round()", 0).holds(NONE, NONE, NONE).due("change(1, true, 3)", 2)
            .act("round()", 1).holds(NONE, 0, NONE).due("household(0, 9)", 4)
            .due("household(1, 9)", 3).due("household(2, 9)", 4);
    }
}
