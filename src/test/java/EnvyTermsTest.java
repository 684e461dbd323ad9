/** What the document says under ENVY, sentence by sentence, up to its bounds and past them. */
public final class EnvyTermsTest {
    private static final String HEADING = "ENVY";
    private static final int NONE = FlatLottery.NONE;

    public static void main(String[] args) {
        thatHoldsAFlat();
        wishesMore();
        ifAny();
        eligible();
        standsInTheOrder();
        standsBehindByNumber();
        standsBehindByPoints();
        pairs();
        Run.end();
    }

    private static void thatHoldsAFlat() {
        Run run = Run.of(HEADING, "A household envies another one if that holds a flat");
        run.flats(1, 1, 1).households(2, 1, 9).list(0, 0).list(1, 0).due("draw(1, 1)", 1)
            .unchanged("envies(0, 1)", 0).unchanged("envies(1, 0)", 0).due("round()", 1)
            .unchanged("envies(0, 1)", 1).unchanged("envies(1, 0)", 0).due("moveOut(1)", 0)
            .unchanged("envies(0, 1)", 0).due("count(5)", 0);
    }

    private static void wishesMore() {
        String words = "that it wishes more than the one that it holds";
        Run run = Run.of(HEADING, words);
        run.settled(3).unchanged("envies(2, 1)", 0).list(2, 2, 1).unchanged("envies(2, 1)", 0)
            .due("unwish(2, 2)", 0).unchanged("envies(2, 1)", 1).list(2, 2).listIs(2, 1, 2)
            .unchanged("envies(2, 1)", 1).unchanged("envies(2, 0)", 0).list(2, 0)
            .unchanged("envies(2, 0)", 0);
        // The sixth place against the fifth.
        Run last = Run.of(HEADING, words);
        last.settled(6).list(5, 0, 1, 2, 3, 4, 5).unchanged("envies(5, 4)", 1)
            .text("5:0,1,2,3,5,4").due("readLists()", 1).unchanged("envies(5, 4)", 0)
            .unchanged("envies(5, 3)", 1);
    }

    private static void ifAny() {
        Run run = Run.of(HEADING, "(if any)");
        run.settled(1).households(1, 1, 9).unchanged("envies(1, 0)", 0).list(1, 0)
            .unchanged("envies(1, 0)", 1).due("unwish(1, 0)", 0).unchanged("envies(1, 0)", 0);
    }

    private static void eligible() {
        Run run = Run.of(HEADING, "and for which it is eligible");
        run.due("addFlat(2, 100)", 0).due("addFlat(3, 100)", 1).households(2, 2, 300)
            .households(1, 2, 300).list(0, 0).list(1, 1).list(2, 0, 1).numbers(1, 2).due("round()", 2)
            .due("envies(2, 0)", 1).due("envies(2, 1)", 1)
            .due("change(2, true, 299)", 300).due("envies(2, 0)", 0).due("envies(2, 1)", 0)
            .due("change(2, true, 300)", 299).due("change(2, false, 1)", 2)
            .due("envies(2, 0)", 1).due("envies(2, 1)", 0)
            .due("change(2, false, 4)", 1).due("envies(2, 0)", 1).due("envies(2, 1)", 1)
            .due("change(2, false, 5)", 4).due("envies(2, 0)", 0).due("envies(2, 1)", 1)
            .due("change(2, false, 6)", 5).due("envies(2, 1)", 1)
            .due("change(2, false, 7)", 6).due("envies(2, 1)", 0);
        // Whether the other one is eligible for it makes no difference.
        run.due("change(2, false, 2)", 7).due("change(0, true, 1)", 300).due("envies(2, 0)", 1);
    }

    private static void standsInTheOrder() {
        Run run = Run.of(HEADING, "This is just if it stands in the order");
        run.settled(1).households(1, 1, 9).list(1, 0).due("draw(0, 999)", 1)
            .unchanged("envies(1, 0)", 1).due("count(6)", 0).due("draw(1, 998)", 2)
            .unchanged("envies(1, 0)", 2).due("count(6)", 1);
    }

    private static void standsBehindByNumber() {
        Run run = Run.of(HEADING, "and the other one stands behind it");
        run.settled(3).list(0, 1).list(1, 0, 2).list(2, 1).due("envies(0, 1)", 2)
            .due("envies(1, 0)", 1).due("envies(1, 2)", 2).due("envies(2, 1)", 1)
            .due("draw(0, 999)", 3).due("envies(0, 1)", 1).due("envies(1, 0)", 2)
            .due("draw(2, 1)", 3).due("envies(1, 2)", 1).due("envies(2, 1)", 2);
        Run far = Run.of(HEADING, "and the other one stands behind it");
        far.settled(12).list(0, 11).list(11, 0).due("envies(0, 11)", 2).due("envies(11, 0)", 1);
    }

    private static void standsBehindByPoints() {
        Run run = Run.of(HEADING, "and the other one stands behind it");
        run.settled(2).list(0, 1).list(1, 0).due("envies(1, 0)", 1)
            .due("change(1, false, 3)", 1).due("appeal(1, 1)", 102).due("change(1, false, 1)", 3)
            .due("envies(1, 0)", 2).due("envies(0, 1)", 1)
            .due("change(0, false, 3)", 1).due("appeal(0, 1)", 102).due("change(0, false, 1)", 3)
            .due("envies(1, 0)", 1).due("envies(0, 1)", 2);
    }

    private static void pairs() {
        Run none = Run.of("## Promise 26: count", "5 for pairs of which the first envies the second");
        none.unchanged("count(5)", 0).unchanged("count(6)", 0).settled(2).unchanged("count(5)", 0)
            .list(1, 0).unchanged("count(5)", 1).unchanged("count(6)", 0).list(0, 1)
            .unchanged("count(5)", 2).unchanged("count(6)", 1);
        // Each envies six others: those behind it justly.
        Run all = Run.of("## Promise 26: count", "6 for those of them with just envy");
        all.settled(12);
        int just = 0;
        for (int household = 0; household < 12; household++) {
            for (int step = 1; step <= 6; step++) {
                int other = (household + step) % 12;
                all.due("wish(" + household + ", " + other + ")", step);
                just += other > household ? 1 : 0;
            }
        }
        all.unchanged("count(5)", 72).unchanged("count(6)", just).due("swap()", 12)
            .due("household(0, 8)", NONE).due("count(5)", 0).due("count(6)", 0);
    }
}
