/** Promise 12, what household(.., 8) and count(7) tell: swaps by rings. */
public final class SwapTest {
    private static final int UNKNOWN = FlatLottery.UNKNOWN;
    private static final int NONE = FlatLottery.NONE;

    public static void main(String[] args) {
        noRing();
        pair();
        pointing();
        longRing();
        tailIsNoRing();
        lowestFirst();
        again();
        Run.end();
    }

    private static void noRing() {
        new Run("12 swap, nobody").unchanged("swap()", NONE);
        new Run("12 swap, content").settled(3).unchanged("swap()", NONE).due("count(7)", 0)
            .list(0, 0, 1).list(1, 1, 0).unchanged("swap()", NONE)
            .due("household(0, 8)", NONE).due("household(9, 8)", UNKNOWN);
    }

    private static void pair() {
        // No numbers are needed for a ring, and a flat that is held without being wished is left.
        new Run("12 swap, a pair").settled(3).list(0, 2).list(2, 0).due("household(0, 8)", 2)
            .due("household(2, 8)", 0).due("household(1, 8)", NONE).due("count(7)", 2)
            .due("count(5)", 2).act("swap()", 2).holds(2, 1, 0).due("count(7)", 0)
            .due("count(2)", 3).due("flat(0, 2)", 2).due("flat(2, 2)", 0)
            .unchanged("swap()", NONE).listIs(0, 2).due("household(0, 8)", NONE);
        // Nothing needs to be asked first.
        new Run("12 swap, at once").settled(2).list(0, 1).list(1, 0).due("swap()", 2).due("swap()", NONE)
            .due("unwish(0, 1)", 0).list(0, 0).due("unwish(1, 0)", 0).list(1, 1).due("swap()", 2)
            .holds(0, 1);
        // Not, if one of them isn't eligible.
        new Run("12 swap, not eligible").settled(2).list(0, 1).list(1, 0).due("change(0, true, 2)", 9)
            .due("household(0, 8)", NONE).due("household(1, 8)", 0).unchanged("swap()", NONE)
            .due("change(0, true, 3)", 2).due("household(0, 8)", 1).act("swap()", 2).holds(1, 0);
    }

    private static void pointing() {
        // The first flat on the list that is held, by one that is eligible, before its own one.
        Run run = new Run("household(.., 8)").settled(4).flats(1, 1, 1).due("addFlat(5, 1)", 5);
        run.list(0, 4, 2, 1, 0, 3).due("household(0, 8)", 2)
            .due("moveOut(2)", 2).due("household(0, 8)", 1)
            .due("moveOut(1)", 1).due("household(0, 8)", NONE)
            .due("unwish(0, 0)", 3).due("household(0, 8)", 3)
            .due("moveOut(0)", 0).due("household(0, 8)", NONE);
        // Six flats that nobody holds, before one that is on no list.
        new Run("household(.., 8), six free flats").settled(2).flats(6, 1, 1).list(0, 2, 3, 4, 5, 6, 7)
            .due("household(0, 8)", NONE).due("household(1, 8)", NONE).due("count(7)", 0)
            .unchanged("swap()", NONE);
        // A flat that is wished most and held, but too large, is passed.
        Run wide = new Run("household(.., 8), not eligible").due("addFlat(2, 1)", 0)
            .due("addFlat(3, 1)", 1).due("addFlat(1, 1)", 2).households(1, 1, 9)
            .households(1, 2, 9).households(1, 1, 9);
        wide.list(0, 2).list(1, 1).list(2, 0).numbers(1, 2, 3).due("round()", 3)
            .due("unwish(0, 2)", 0).list(0, 1, 0).due("household(0, 8)", 2)
            .due("change(0, false, 2)", 1).due("household(0, 8)", 1);
    }

    private static void longRing() {
        Run run = new Run("12 swap, a ring of twelve").settled(12);
        for (int household = 0; household < 12; household++) {
            run.list(household, (household + 5) % 12);
        }
        run.due("count(7)", 12).act("swap()", 12).holds(5, 6, 7, 8, 9, 10, 11, 0, 1, 2, 3, 4)
            .due("count(7)", 0);
    }

    private static void tailIsNoRing() {
        // 0 and 1 point into the ring of 2 and 3, but don't stand in it.
        new Run("12 swap, a tail").settled(4).list(0, 1).list(1, 2).list(2, 3).list(3, 2)
            .due("household(0, 8)", 1).due("household(1, 8)", 2).due("count(7)", 2)
            .act("swap()", 2).holds(0, 1, 3, 2);
        new Run("12 swap, a row that ends").settled(3).list(0, 1).list(1, 2).due("count(7)", 0)
            .unchanged("swap()", NONE);
    }

    private static void lowestFirst() {
        // Three rings at once, told together.
        new Run("12 swap, rings side by side").settled(6).list(0, 5).list(5, 0).list(1, 4).list(4, 1)
            .list(2, 3).list(3, 2).due("count(7)", 6).act("swap()", 6).holds(5, 4, 3, 2, 1, 0);
    }

    private static void again() {
        // 1 would take 0's flat for its own, but wishes 2's more, so the ring goes through all.
        new Run("12 swap, the one it wishes most").settled(3).list(0, 1).list(1, 2, 0).list(2, 0)
            .due("household(1, 8)", 2).due("count(7)", 3).act("swap()", 3).holds(1, 2, 0);
        // Who moved in a ring holds the best of all held flats, and points to none behind it.
        new Run("12 swap, no second ring behind the first").settled(3).list(0, 1, 2).list(1, 0)
            .list(2, 1).due("household(0, 8)", 1).due("household(1, 8)", 0)
            .due("household(2, 8)", 1).due("count(7)", 2).act("swap()", 2).holds(1, 0, 2)
            .due("household(2, 8)", 0).due("household(0, 8)", NONE).due("count(7)", 0);
        // A ring that one only stands beside while 2 has its flat: free flats are in no ring.
        new Run("12 swap, a flat that became free").settled(4).list(0, 1).list(1, 3, 0).list(3, 0)
            .due("household(1, 8)", 3).due("count(7)", 3).due("moveOut(3)", 3)
            .due("household(1, 8)", 0).due("count(7)", 2).act("swap()", 2)
            .holds(1, 0, 2, NONE).unchanged("swap()", NONE);
    }
}
