/** What the document says under FLATS, sentence by sentence, up to its bounds and past them. */
public final class FlatsTermsTest {
    private static final int UNKNOWN = FlatLottery.UNKNOWN;
    private static final int BAD_VALUE = FlatLottery.BAD_VALUE;
    private static final int FULL = FlatLottery.FULL;
    private static final int NONE = FlatLottery.NONE;

    public static void main(String[] args) {
        atMostTwelve();
        numberedFromZero();
        rooms();
        rent();
        freeOrHeldByOne();
        Run.end();
    }

    private static void atMostTwelve() {
        Run run = Run.of("FLATS", "There are at most 12 flats");
        run.due("count(0)", 0);
        for (int flat = 0; flat < 12; flat++) {
            run.act("addFlat(1, 1)", flat).due("count(0)", flat + 1);
        }
        run.unchanged("addFlat(1, 1)", FULL).unchanged("addFlat(5, 999)", FULL).due("count(0)", 12);
        // There is room again where an undo() has taken the twelfth one away.
        run.due("undo()", 3).due("count(0)", 11).act("addFlat(5, 999)", 11)
            .unchanged("addFlat(1, 1)", FULL).due("count(0)", 12);
    }

    private static void numberedFromZero() {
        Run run = Run.of("FLATS", "numbered from 0");
        run.households(1, 1, 9).unchanged("flat(0, 0)", UNKNOWN).unchanged("wish(0, 0)", UNKNOWN)
            .flats(1, 1, 1).due("flat(0, 0)", 1).unchanged("flat(1, 0)", UNKNOWN)
            .flats(11, 1, 1).due("flat(11, 0)", 1).unchanged("flat(12, 0)", UNKNOWN)
            .unchanged("flat(-1, 0)", UNKNOWN).act("wish(0, 11)", 1).act("wish(0, 0)", 2)
            .unchanged("wish(0, 12)", UNKNOWN).unchanged("wish(0, -1)", UNKNOWN)
            .act("unwish(0, 11)", 0).unchanged("unwish(0, 12)", UNKNOWN)
            .unchanged("unwish(0, -1)", UNKNOWN);
    }

    private static void rooms() {
        Run run = Run.of("FLATS", "A flat has rooms (1 to 5)");
        for (int rooms : new int[] {Integer.MIN_VALUE, -1, 0, 6, 7, Integer.MAX_VALUE}) {
            run.unchanged("addFlat(" + rooms + ", 1)", BAD_VALUE);
        }
        for (int rooms = 1; rooms <= 5; rooms++) {
            run.act("addFlat(" + rooms + ", 1)", rooms - 1)
                .due("flat(" + (rooms - 1) + ", 0)", rooms);
        }
    }

    private static void rent() {
        Run run = Run.of("FLATS", "and a rent (1 to 999)");
        for (int rent : new int[] {Integer.MIN_VALUE, -1, 0, 1000, 1001, Integer.MAX_VALUE}) {
            run.unchanged("addFlat(1, " + rent + ")", BAD_VALUE);
        }
        int flat = 0;
        for (int rent : new int[] {1, 2, 998, 999}) {
            run.act("addFlat(1, " + rent + ")", flat).due("flat(" + flat + ", 1)", rent);
            flat++;
        }
    }

    private static void freeOrHeldByOne() {
        Run run = Run.of("FLATS", "It is free, or held by one household.");
        run.flats(1, 1, 1).due("flat(0, 2)", NONE).due("count(2)", 0)
            .households(12, 1, 9).list(0, 0).list(11, 0).due("draw(0, 2)", 1).due("draw(11, 1)", 2)
            .due("flat(0, 2)", NONE).act("round()", 1).due("flat(0, 2)", 11).due("count(2)", 1)
            .act("round()", 0).due("flat(0, 2)", 11).due("count(2)", 1)
            .act("moveOut(11)", 0).due("flat(0, 2)", NONE).due("count(2)", 0)
            .due("draw(0, 3)", 2).due("draw(11, 4)", 2).act("round()", 1).due("flat(0, 2)", 0)
            .act("decline(0)", 0).due("flat(0, 2)", NONE).due("count(2)", 0);
    }
}
