/** What the document says under RINGS, sentence by sentence, up to its bounds and past them. */
public final class RingsTermsTest {
    private static final String HEADING = "RINGS";
    private static final int NONE = FlatLottery.NONE;

    public static void main(String[] args) {
        oneThatHoldsAFlat();
        ofAllFlatsThatAreHeld();
        onItsList();
        eligible();
        moreThanItsOwn();
        toNone();
        noRing();
        ringOfTwo();
        ringOfTwelve();
        rowIntoARing();
        asLongAsThereIsARing();
        eachGetsTheFlat();
        Run.end();
    }

    private static void oneThatHoldsAFlat() {
        Run run = Run.of(HEADING, "A household that holds a flat points to");
        run.settled(2).households(1, 1, 9).list(0, 1).list(1, 0).list(2, 0, 1).due("draw(2, 9)", 3)
            .due("household(0, 8)", 1).due("household(1, 8)", 0).due("household(2, 8)", NONE)
            .due("count(7)", 2).due("moveOut(0)", 0).due("household(0, 8)", NONE)
            .due("household(1, 8)", NONE).due("count(7)", 0).unchanged("swap()", NONE);
    }

    private static void ofAllFlatsThatAreHeld() {
        Run run = Run.of(HEADING, "of all flats that are held");
        run.settled(8).list(0, 1, 2, 3, 4, 5, 6);
        // The flat that it wishes most, of those that are left, up to the sixth one.
        for (int holder = 1; holder <= 6; holder++) {
            run.due("household(0, 8)", holder).due("moveOut(" + holder + ")", holder);
        }
        run.due("household(0, 8)", NONE).due("draw(1, 20)", 8).due("round()", 0)
            .due("household(0, 8)", NONE).list(1, 6).due("round()", 1).due("household(0, 8)", 1);
    }

    private static void onItsList() {
        Run run = Run.of(HEADING, "that flat on its list which it wishes most");
        run.settled(4).due("household(0, 8)", NONE).list(0, 3).due("household(0, 8)", 3)
            .list(0, 1).due("household(0, 8)", 3).due("unwish(0, 3)", 0).due("household(0, 8)", 1)
            .list(0, 2).due("household(0, 8)", 1).due("unwish(0, 1)", 0).due("household(0, 8)", 2)
            .due("unwish(0, 2)", 0).due("household(0, 8)", NONE);
    }

    private static void eligible() {
        // Flat 1 has 2 rooms and a rent of 100: each bound, just kept and just not.
        Run run = Run.of(HEADING, "for which it is eligible");
        run.due("addFlat(2, 1)", 0).due("addFlat(2, 100)", 1).due("addFlat(3, 1)", 2)
            .households(3, 2, 300).list(0, 0).list(1, 1).list(2, 2).numbers(1, 2, 3)
            .due("round()", 3).due("unwish(0, 0)", 0).list(0, 1).due("household(0, 8)", 1)
            .due("change(0, true, 299)", 300).due("household(0, 8)", NONE)
            .due("change(0, true, 300)", 299).due("change(0, false, 4)", 2)
            .due("household(0, 8)", 1).due("change(0, false, 5)", 4).due("household(0, 8)", NONE)
            .due("unwish(0, 1)", 0).list(0, 2, 1).due("household(0, 8)", 2)
            .due("change(0, false, 2)", 5).due("household(0, 8)", 2)
            .due("change(0, false, 1)", 2).due("household(0, 8)", 1);
    }

    private static void moreThanItsOwn() {
        Run run = Run.of(HEADING, "and which it wishes more than its own one");
        run.settled(3).list(0, 0, 1, 2).due("household(0, 8)", NONE)
            .due("unwish(0, 0)", 0).due("household(0, 8)", 1).list(0, 0).listIs(0, 1, 2, 0)
            .due("household(0, 8)", 1).due("moveOut(1)", 1).due("household(0, 8)", 2)
            .due("unwish(0, 2)", 1).listIs(0, 1, 0).due("household(0, 8)", NONE)
            .list(0, 2).due("household(0, 8)", NONE);
    }

    private static void toNone() {
        Run run = Run.of(HEADING, "to none if there is no such flat");
        // An empty list; its own one alone; free ones; held ones behind its own one.
        run.settled(3).flats(1, 1, 1).due("household(0, 8)", NONE).list(0, 0)
            .due("household(0, 8)", NONE).list(0, 1, 2).due("household(0, 8)", NONE)
            .due("unwish(0, 0)", 0).due("unwish(0, 1)", 0).due("unwish(0, 2)", 0).list(0, 3)
            .due("household(0, 8)", NONE).due("count(7)", 0).unchanged("swap()", NONE);
    }

    private static void noRing() {
        Run run = Run.of("## Promise 12: swap", "NONE if there is no ring");
        run.unchanged("swap()", NONE).due("count(7)", 0).households(2, 1, 9)
            .unchanged("swap()", NONE);
        // A row of twelve that ends is no ring, and neither is one alone.
        Run row = Run.of("## Promise 12: swap", "NONE if there is no ring");
        row.settled(12);
        for (int household = 0; household < 11; household++) {
            row.list(household, household + 1);
        }
        row.due("household(0, 8)", 1).due("household(10, 8)", 11).due("household(11, 8)", NONE)
            .due("count(7)", 0).unchanged("swap()", NONE).list(11, 11)
            .due("household(11, 8)", NONE).due("count(7)", 0).unchanged("swap()", NONE)
            .holds(0, 1, 2, 3, 4, 5, 6, 7, 8, 9, 10, 11);
    }

    private static void ringOfTwo() {
        Run run = Run.of(HEADING, "A ring is a row of households each of which points to the next one, "
            + "and the last one to the first.");
        run.settled(3).list(0, 2).due("count(7)", 0).unchanged("swap()", NONE).list(2, 0)
            .due("count(7)", 2).act("swap()", 2).holds(2, 1, 0).due("count(7)", 0)
            .unchanged("swap()", NONE);
        // The same with the last two of twelve.
        Run last = Run.of(HEADING, "and the last one to the first");
        last.settled(12).list(10, 11).list(11, 10).due("count(7)", 2).act("swap()", 2)
            .holds(0, 1, 2, 3, 4, 5, 6, 7, 8, 9, 11, 10);
    }

    private static void ringOfTwelve() {
        Run run = Run.of(HEADING, "A ring is a row of households each of which points to the next one");
        run.settled(12);
        for (int household = 0; household < 12; household++) {
            run.list(household, (household + 1) % 12);
        }
        run.due("household(11, 8)", 0).due("count(7)", 12).act("swap()", 12)
            .holds(1, 2, 3, 4, 5, 6, 7, 8, 9, 10, 11, 0).due("count(7)", 0)
            .unchanged("swap()", NONE);
    }

    private static void rowIntoARing() {
        // 0, 1 and 5 point into the ring of 2, 3 and 4 without standing in it, and stay.
        Run run = Run.of(HEADING, "and each of its households gets the flat of the one to which it "
            + "points");
        run.settled(6).list(0, 1).list(1, 2).list(2, 3).list(3, 4).list(4, 2).list(5, 4)
            .due("household(0, 8)", 1).due("household(5, 8)", 4).due("count(7)", 3)
            .act("swap()", 3).holds(0, 1, 3, 4, 2, 5).due("count(7)", 0)
            // They point to those who hold now what they wish.
            .due("household(1, 8)", 4).due("household(5, 8)", 3).unchanged("swap()", NONE);
    }

    private static void asLongAsThereIsARing() {
        String words = "In a swap, as long as there is a ring, the one that has the lowest household "
            + "(of all households in rings) is taken";
        Run two = Run.of(HEADING, words);
        two.settled(5).list(0, 4).list(4, 0).list(1, 2).list(2, 3).list(3, 1).due("count(7)", 5)
            .act("swap()", 5).holds(4, 2, 3, 1, 0).due("count(7)", 0).unchanged("swap()", NONE);
        Run six = Run.of(HEADING, words);
        six.settled(12);
        for (int household = 0; household < 12; household++) {
            six.list(household, 11 - household);
        }
        six.due("count(7)", 12).act("swap()", 12).holds(11, 10, 9, 8, 7, 6, 5, 4, 3, 2, 1, 0)
            .due("count(7)", 0).due("undo()", 3).due("count(7)", 12)
            .holds(0, 1, 2, 3, 4, 5, 6, 7, 8, 9, 10, 11);
    }

    private static void eachGetsTheFlat() {
        // Flats and households bear other numbers here, and the lists go on behind what is got.
        Run run = Run.of(HEADING, "each of its households gets the flat of the one to which it points");
        run.flats(5, 1, 1).households(3, 1, 9).list(0, 4).list(1, 0).list(2, 2).numbers(1, 2, 3)
            .due("round()", 3).holds(4, 0, 2).due("unwish(0, 4)", 0).due("unwish(1, 0)", 0)
            .due("unwish(2, 2)", 0).list(0, 3, 0, 4).list(1, 1, 2, 0).list(2, 4, 2)
            .due("household(0, 8)", 1).due("household(1, 8)", 2).due("household(2, 8)", 0)
            .act("swap()", 3).holds(0, 2, 4).due("flat(0, 2)", 0).due("flat(2, 2)", 1)
            .due("flat(4, 2)", 2).due("flat(1, 2)", NONE).due("flat(3, 2)", NONE)
            .listIs(0, 3, 0, 4).listIs(1, 1, 2, 0).listIs(2, 4, 2).due("count(2)", 3);
    }
}
