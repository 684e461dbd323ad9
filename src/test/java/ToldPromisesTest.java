/** Promises 19 to 26, up to the bounds of what they ask and answer, and past them. */
public final class ToldPromisesTest {
    private static final int UNKNOWN = FlatLottery.UNKNOWN;
    private static final int BAD_VALUE = FlatLottery.BAD_VALUE;
    private static final int FULL = FlatLottery.FULL;
    private static final int NONE = FlatLottery.NONE;
    private static final String WOULD_GET =
        "Tells what a household would get if all flats were free, and one round was held.";
    private static final String MOST = "the greatest number of households that could hold a flat on "
        + "their lists for which they are eligible, all at once, if all flats were free";

    public static void main(String[] args) {
        flatWhat();
        flatBits();
        householdWhat();
        householdRounds();
        wished();
        ordered();
        envies();
        wouldGetAllFree();
        wouldGetWithout();
        wouldGetNone();
        wouldGetByPoints();
        wouldGetEligible();
        mostNone();
        mostAllAtOnce();
        mostEligible();
        mostIfAllWereFree();
        countWhat();
        countSoFar();
        countEmptyAndFull();
        Run.end();
    }

    private static void flatWhat() {
        Run run = Run.of("## Promise 19: flat", "- `what`: 0 for its rooms, 1 for its rent, 2 for the "
            + "household that holds it (NONE if it is free), 3 for the households on whose lists it "
            + "is, 4 for those that are eligible for it (3 and 4 as bits)");
        run.settled(2).due("addFlat(4, 30)", 2).households(1, 5, 90).list(2, 2)
            .unchanged("flat(1, 0)", 1).unchanged("flat(1, 1)", 1).unchanged("flat(1, 2)", 1)
            .unchanged("flat(1, 3)", 0).unchanged("flat(1, 4)", 3)
            .unchanged("flat(2, 0)", 4).unchanged("flat(2, 1)", 30).unchanged("flat(2, 2)", NONE)
            .unchanged("flat(2, 3)", 4).unchanged("flat(2, 4)", 4);
        for (int what : new int[] {Integer.MIN_VALUE, -5, -1, 5, 6, Integer.MAX_VALUE}) {
            run.unchanged("flat(0, " + what + ")", BAD_VALUE)
                .unchanged("flat(3, " + what + ")", UNKNOWN);
        }
        run.unchanged("flat(3, 0)", UNKNOWN).unchanged("flat(-1, 0)", UNKNOWN)
            .unchanged("flat(-2147483648, 0)", UNKNOWN).unchanged("flat(2147483647, 0)", UNKNOWN);
    }

    private static void flatBits() {
        Run run = Run.of("## Promise 19: flat", "(3 and 4 as bits)");
        run.flats(1, 1, 3).unchanged("flat(0, 3)", 0).unchanged("flat(0, 4)", 0)
            .households(12, 1, 8).unchanged("flat(0, 3)", 0).unchanged("flat(0, 4)", 0);
        int bits = 0;
        for (int household : new int[] {11, 0, 5, 6, 1, 10, 2, 3, 4, 7, 8, 9}) {
            bits |= 1 << household;
            run.list(household, 0).due("flat(0, 3)", bits)
                .due("change(" + household + ", true, 9)", 8).due("flat(0, 4)", bits);
        }
        run.due("flat(0, 3)", 4095).due("flat(0, 4)", 4095).due("unwish(0, 0)", 0)
            .due("flat(0, 3)", 4094).due("unwish(11, 0)", 0).due("flat(0, 3)", 2046);
    }

    private static void householdWhat() {
        Run run = Run.of("## Promise 20: household", "- `what`: 0 for its members, 1 for its income, 2 for "
            + "its number in the draw (NONE without one), 3 for its points, 4 for the flat that it "
            + "holds (NONE without one), 5 for how many flats are on its list, 6 for its appeals so "
            + "far, 7 for its place in the order (from 0; NONE if it does not stand in it), 8 for the "
            + "household to which it points (NONE without one)");
        run.settled(2).households(1, 9, 9999).list(0, 1, 0).due("draw(1, 999)", 2)
            .due("change(0, false, 2)", 1).due("appeal(0, 2)", 103).due("appeal(0, 1)", 3)
            .unchanged("household(0, 0)", 2).unchanged("household(0, 1)", 9)
            .unchanged("household(0, 2)", 1).unchanged("household(0, 3)", 3)
            .unchanged("household(0, 4)", 0).unchanged("household(0, 5)", 2)
            .unchanged("household(0, 6)", 2).unchanged("household(0, 7)", 0)
            .unchanged("household(0, 8)", 1).unchanged("household(0, 9)", 0)
            .unchanged("household(1, 7)", 1).unchanged("household(1, 8)", NONE)
            .unchanged("household(2, 0)", 9).unchanged("household(2, 1)", 9999)
            .eachUnchanged(NONE, "household(2, 2)", "household(2, 4)", "household(2, 7)",
                "household(2, 8)")
            .eachUnchanged(0, "household(2, 3)", "household(2, 5)", "household(2, 6)",
                "household(2, 9)");
        for (int what : new int[] {Integer.MIN_VALUE, -5, -1, 10, 11, Integer.MAX_VALUE}) {
            run.unchanged("household(0, " + what + ")", BAD_VALUE)
                .unchanged("household(3, " + what + ")", UNKNOWN);
        }
        run.eachUnchanged(UNKNOWN, "household(3, 0)", "household(-1, 0)",
            "household(-2147483648, 0)", "household(2147483647, 0)");
    }

    private static void householdRounds() {
        Run run = Run.of("## Promise 20: household",
            "9 for rounds in whose order it stood without a flat behind that");
        // 0 holds a flat, 1 gets one, 2 gets none, 3 has no number.
        run.settled(1).flats(1, 1, 1).households(3, 1, 9).list(1, 1).list(2, 1).list(3, 1)
            .due("draw(1, 10)", 2).due("draw(2, 20)", 3).due("round()", 1)
            .due("household(0, 9)", 0).due("household(1, 9)", 0).due("household(2, 9)", 1)
            .due("household(3, 9)", 0).due("round()", 0).due("household(2, 9)", 2)
            .due("moveOut(1)", 1).due("household(1, 9)", 0).due("draw(2, 2)", 3).due("round()", 1)
            .due("household(1, 9)", 1).due("household(2, 9)", 2).due("undo()", 3)
            .due("household(1, 9)", 0).due("household(2, 9)", 2).due("decline(0)", 0)
            .due("household(0, 9)", 0);
    }

    private static void wished() {
        Run run = Run.of("## Promise 21: wished",
            "Returns the flat; UNKNOWN; BAD_VALUE if place is negative; NONE if there are not so many.");
        run.flats(12, 1, 1).households(2, 1, 9).unchanged("wished(0, 0)", NONE).list(0, 11)
            .unchanged("wished(0, 0)", 11).unchanged("wished(0, 1)", NONE).list(0, 0, 1, 2, 3, 4)
            .unchanged("wished(0, 1)", 0).unchanged("wished(0, 5)", 4)
            .eachUnchanged(NONE, "wished(0, 6)", "wished(0, 7)", "wished(0, 2147483647)",
                "wished(1, 0)")
            .eachUnchanged(BAD_VALUE, "wished(0, -1)", "wished(0, -5)", "wished(0, -2147483648)",
                "wished(1, -1)")
            .eachUnchanged(UNKNOWN, "wished(2, 0)", "wished(-1, 0)", "wished(2, -1)");
        // What an unwish() or a decline() took off is not told any more.
        run.due("unwish(0, 4)", 5).unchanged("wished(0, 5)", NONE).due("unwish(0, 11)", 0)
            .unchanged("wished(0, 4)", NONE).unchanged("wished(0, 0)", 0);
    }

    private static void ordered() {
        Run run = Run.of("## Promise 22: ordered",
            "Returns the household; BAD_VALUE if rank is negative; NONE if there are not so many.");
        run.unchanged("ordered(0)", NONE).unchanged("ordered(-1)", BAD_VALUE).households(12, 1, 9)
            .unchanged("ordered(0)", NONE).due("draw(11, 1)", 1).unchanged("ordered(0)", 11)
            .unchanged("ordered(1)", NONE);
        for (int household = 0; household < 11; household++) {
            run.due("draw(" + household + ", " + (999 - household) + ")", household + 2);
        }
        run.orderIs(11, 10, 9, 8, 7, 6, 5, 4, 3, 2, 1, 0)
            .eachUnchanged(NONE, "ordered(12)", "ordered(13)", "ordered(2147483647)")
            .eachUnchanged(BAD_VALUE, "ordered(-1)", "ordered(-5)", "ordered(-2147483648)");
    }

    private static void envies() {
        Run run = Run.of("## Promise 23: envies", "Returns 0 if it does not envy the other one, 1 if it "
            + "does, 2 if it does and this is just; UNKNOWN (household or other); BAD_VALUE if both "
            + "are the same.");
        run.settled(3).list(1, 0, 2).unchanged("envies(0, 1)", 0).unchanged("envies(1, 0)", 1)
            .unchanged("envies(1, 2)", 2)
            .eachUnchanged(UNKNOWN, "envies(3, 0)", "envies(0, 3)", "envies(-1, 0)",
                "envies(0, -1)", "envies(3, 3)", "envies(0, NONE)", "envies(2147483647, 0)",
                "envies(0, -2147483648)")
            .eachUnchanged(BAD_VALUE, "envies(0, 0)", "envies(1, 1)", "envies(2, 2)");
    }

    private static void wouldGetAllFree() {
        // All flats are held; each would get what it wishes most, if it comes first to it.
        Run run = Run.of("## Promise 24: wouldGet", WOULD_GET);
        run.settled(4).list(0, 3).list(1, 3, 2).list(2, 2, 3).list(3, 0)
            .unchanged("wouldGet(0, NONE)", 3).unchanged("wouldGet(1, NONE)", 2)
            .unchanged("wouldGet(2, NONE)", NONE).unchanged("wouldGet(3, NONE)", 0)
            .holds(0, 1, 2, 3);
        // The same where none is held, and it is the round that follows then.
        for (int household = 0; household < 4; household++) {
            run.due("moveOut(" + household + ")", household);
        }
        run.unchanged("wouldGet(0, NONE)", 3).unchanged("wouldGet(1, NONE)", 2)
            .unchanged("wouldGet(2, NONE)", NONE).unchanged("wouldGet(3, NONE)", 0)
            .due("round()", 3).holds(3, 2, NONE, 0).unchanged("wouldGet(2, NONE)", NONE);
    }

    private static void wouldGetWithout() {
        Run run = Run.of("## Promise 24: wouldGet",
            "- `without`: a household without which the round is held, or NONE");
        Run.of("## Promise 24: wouldGet", "UNKNOWN (household or without)").households(1, 1, 1)
            .eachUnchanged(UNKNOWN, "wouldGet(1, NONE)", "wouldGet(0, 1)", "wouldGet(1, 0)",
                "wouldGet(-1, 0)", "wouldGet(0, -1)", "wouldGet(NONE, 0)")
            .unchanged("wouldGet(0, NONE)", NONE).unchanged("wouldGet(0, 0)", NONE);
        run.flats(3, 1, 1).households(4, 1, 9).list(0, 0).list(1, 0, 1).list(2, 0, 1, 2).list(3, 0)
            .due("draw(0, 1)", 1).due("draw(1, 2)", 2).due("draw(2, 3)", 3)
            .unchanged("wouldGet(2, NONE)", 2).unchanged("wouldGet(2, 1)", 1)
            .unchanged("wouldGet(2, 0)", 1).unchanged("wouldGet(1, 0)", 0)
            .unchanged("wouldGet(1, 2)", 1).unchanged("wouldGet(0, 1)", 0)
            // Without one that has no number, it is the same round.
            .unchanged("wouldGet(2, 3)", 2).unchanged("wouldGet(1, 3)", 1)
            .eachUnchanged(UNKNOWN, "wouldGet(0, 4)", "wouldGet(0, -1)", "wouldGet(0, -2)",
                "wouldGet(0, -3)", "wouldGet(0, -4)", "wouldGet(0, -6)", "wouldGet(0, 2147483647)",
                "wouldGet(0, -2147483648)", "wouldGet(4, NONE)", "wouldGet(-1, NONE)",
                "wouldGet(4, 0)", "wouldGet(NONE, NONE)", "wouldGet(4, 4)");
    }

    private static void wouldGetNone() {
        Run run = Run.of("## Promise 24: wouldGet",
            "NONE if it would get none (also if it is the one without which it is held)");
        run.settled(2).list(0, 0).households(1, 1, 9).list(2, 1).unchanged("wouldGet(0, NONE)", 0)
            .unchanged("wouldGet(0, 0)", NONE).unchanged("wouldGet(1, NONE)", NONE)
            .unchanged("wouldGet(1, 1)", NONE).unchanged("wouldGet(2, NONE)", NONE)
            .unchanged("wouldGet(2, 2)", NONE).unchanged("wouldGet(2, 0)", NONE)
            .due("draw(2, 999)", 3).unchanged("wouldGet(2, NONE)", 1).due("unwish(0, 0)", 0)
            .unchanged("wouldGet(0, NONE)", NONE);
    }

    private static void wouldGetByPoints() {
        Run run = Run.of("## Promise 24: wouldGet", "and one round was held");
        run.flats(1, 1, 1).households(2, 1, 9).list(0, 0).list(1, 0).numbers(1, 2)
            .unchanged("wouldGet(0, NONE)", 0).unchanged("wouldGet(1, NONE)", NONE)
            .due("round()", 1).due("appeal(1, 0)", 101).unchanged("wouldGet(0, NONE)", NONE)
            .unchanged("wouldGet(1, NONE)", 0).unchanged("wouldGet(0, 1)", 0).holds(0, NONE)
            .due("count(3)", 1).due("household(0, 9)", 0);
    }

    private static void wouldGetEligible() {
        Run run = Run.of("## Promise 24: wouldGet", WOULD_GET);
        run.due("addFlat(2, 100)", 0).due("addFlat(2, 1)", 1).households(2, 4, 300).list(0, 0, 1)
            .list(1, 0, 1).numbers(1, 2).unchanged("wouldGet(0, NONE)", 0)
            .unchanged("wouldGet(1, NONE)", 1).due("change(0, true, 299)", 300)
            .unchanged("wouldGet(0, NONE)", 1).unchanged("wouldGet(1, NONE)", 0)
            .due("change(0, false, 5)", 4).unchanged("wouldGet(0, NONE)", NONE);
    }

    private static void mostNone() {
        Run run = Run.of("## Promise 25: most", MOST);
        run.unchanged("most()", 0).flats(12, 1, 1).unchanged("most()", 0).households(12, 1, 2)
            .unchanged("most()", 0).list(0, 0).unchanged("most()", 0)
            .due("change(0, true, 3)", 2).unchanged("most()", 1);
        Run.of("## Promise 25: most", MOST).households(12, 1, 9).unchanged("most()", 0);
    }

    private static void mostAllAtOnce() {
        // All wish the same flat; then six; then as many as there are, in rows that have to shift.
        Run one = Run.of("## Promise 25: most", MOST);
        Run six = Run.of("## Promise 25: most", MOST);
        Run chain = Run.of("## Promise 25: most", MOST);
        one.flats(12, 1, 1).households(12, 1, 9);
        six.flats(12, 1, 1).households(12, 1, 9);
        chain.flats(12, 1, 1).households(12, 1, 9);
        for (int household = 0; household < 12; household++) {
            one.list(household, 11).due("most()", 1);
            six.list(household, 6, 7, 8, 9, 10, 11).due("most()", Math.min(household + 1, 6));
            // The twelfth has but the first flat, and each of the others shifts by one for it.
            if (household < 11) {
                chain.list(household, household, household + 1).due("most()", household + 1);
            }
        }
        chain.list(11, 0).unchanged("most()", 12).due("unwish(10, 11)", 1).unchanged("most()", 11);
        // Who comes first takes what another one needs, unless it gives way.
        Run.of("## Promise 25: most", MOST).flats(3, 1, 1).households(3, 1, 9).list(0, 0, 1)
            .list(1, 0, 2).list(2, 0).unchanged("most()", 3).due("unwish(0, 1)", 1)
            .unchanged("most()", 2);
        // The first one gives way for the third, and the third one for the fourth.
        Run.of("## Promise 25: most", MOST).flats(6, 1, 1).households(4, 1, 9).list(0, 0, 1)
            .list(1, 3, 5).list(2, 0, 3).list(3, 0).unchanged("most()", 4).due("unwish(1, 5)", 1)
            .unchanged("most()", 3);
    }

    private static void mostEligible() {
        Run run = Run.of("## Promise 25: most", "for which they are eligible");
        run.due("addFlat(2, 100)", 0).due("addFlat(3, 100)", 1).households(2, 4, 300).list(0, 0, 1)
            .list(1, 0, 1).unchanged("most()", 2).due("change(0, true, 299)", 300)
            .unchanged("most()", 1).due("change(0, true, 300)", 299)
            .due("change(0, false, 5)", 4).unchanged("most()", 2)
            .due("change(1, false, 5)", 4).unchanged("most()", 1)
            .due("change(1, false, 1)", 5).unchanged("most()", 2)
            .due("change(0, false, 1)", 5).unchanged("most()", 1);
    }

    private static void mostIfAllWereFree() {
        // 0 holds the only flat that 1 could have, and could have the other one itself.
        Run run = Run.of("## Promise 25: most", "if all flats were free");
        run.flats(2, 1, 1).households(2, 1, 9).list(0, 0, 1).list(1, 0).due("draw(0, 1)", 1)
            .due("round()", 1).holds(0, NONE).unchanged("most()", 2).due("unwish(0, 1)", 1)
            .unchanged("most()", 1).due("unwish(0, 0)", 0).unchanged("most()", 1)
            .due("unwish(1, 0)", 0).unchanged("most()", 0).holds(0, NONE);
    }

    private static void countWhat() {
        Run run = Run.of("## Promise 26: count", "Returns the number; BAD_VALUE.");
        for (int what : new int[] {Integer.MIN_VALUE, -5, -1, 13, 14, Integer.MAX_VALUE}) {
            run.unchanged("count(" + what + ")", BAD_VALUE);
        }
        // Each of the numbers is another one here.
        run.settled(6).flats(6, 1, 1).households(5, 1, 9).due("decline(5)", 5).due("round()", 0)
            .list(0, 1, 2, 3, 4).list(1, 2, 3).list(2, 0).list(3, 4).list(5, 0).list(6, 4);
        for (int household = 7; household <= 10; household++) {
            run.due("appeal(" + household + ", 0)", 0).due("appeal(" + household + ", 0)", 0);
        }
        run.due("appeal(0, 2)", 103).text("any twenty signs ...");
        int[] due = {12, 11, 5, 2, 6, 10, 7, 3, 9, 8, 1, 4, 20};
        for (int what = 0; what <= 12; what++) {
            run.unchanged("count(" + what + ")", due[what]);
        }
    }

    private static void countSoFar() {
        Run rounds = Run.of("## Promise 26: count", "3 for rounds so far");
        rounds.due("round()", FlatLottery.NOT_POSSIBLE).due("count(3)", 0).households(1, 1, 9)
            .numbers(1).due("round()", 0).due("count(3)", 1).due("round()", 0).due("count(3)", 2)
            .due("undo()", 3).due("count(3)", 1);
        Run appeals = Run.of("## Promise 26: count", "8 for appeals so far, 9 for those that were refused");
        appeals.settled(1).households(1, 1, 9).due("appeal(1, 3)", BAD_VALUE)
            .due("appeal(2, 0)", UNKNOWN).due("count(8)", 0).due("count(9)", 0)
            .due("appeal(1, 0)", 0).due("count(8)", 1).due("count(9)", 1)
            .due("change(0, false, 3)", 1).due("appeal(0, 1)", 102).due("count(8)", 2)
            .due("count(9)", 1).due("appeal(1, 1)", 0).due("appeal(1, 1)", FULL)
            .due("count(8)", 3).due("count(9)", 2).due("undo()", 3).due("count(8)", 2)
            .due("count(9)", 1);
        Run declined = Run.of("## Promise 26: count", "10 for flats declined so far");
        declined.settled(2).due("count(10)", 0).due("moveOut(0)", 0).due("count(10)", 0)
            .due("decline(0)", FlatLottery.NOT_POSSIBLE).due("count(10)", 0).due("decline(1)", 1)
            .due("count(10)", 1).list(1, 1).due("round()", 1).due("decline(1)", 1)
            .due("count(10)", 2).due("undo()", 3).due("count(10)", 1);
        Run held = Run.of("## Promise 26: count", "2 for flats that are held");
        held.due("count(2)", 0).settled(12).due("count(2)", 12).due("moveOut(0)", 0)
            .due("count(2)", 11).due("decline(11)", 11).due("count(2)", 10);
    }

    private static void countEmptyAndFull() {
        Run run = Run.of("## Promise 26: count", "- `what`: 0 for flats, 1 for households");
        run.unchanged("count(0)", 0).unchanged("count(1)", 0).flats(12, 1, 1).households(12, 1, 9)
            .due("addFlat(1, 1)", FULL).due("addHousehold(1, 1)", FULL).unchanged("count(0)", 12)
            .unchanged("count(1)", 12);
        Run numbers = Run.of("## Promise 26: count", "4 for households with a number");
        numbers.unchanged("count(4)", 0).households(12, 1, 9).unchanged("count(4)", 0)
            .numbers(1, 2, 3, 4, 5, 6, 7, 8, 9, 10, 11).unchanged("count(4)", 11)
            .due("draw(11, 999)", 12).unchanged("count(4)", 12).due("draw(11, 12)", 12)
            .unchanged("count(4)", 12).due("undo()", 3).due("undo()", 2).unchanged("count(4)", 11);
        Run rings = Run.of("## Promise 26: count", "7 for households in rings");
        rings.unchanged("count(7)", 0).settled(12).unchanged("count(7)", 0);
        for (int household = 0; household < 12; household++) {
            rings.list(household, (household + 11) % 12)
                .due("count(7)", household == 11 ? 12 : 0);
        }
        rings.due("moveOut(6)", 6).unchanged("count(7)", 0);
        Run states = Run.of("## Promise 26: count",
            "11 for the states in the history, 12 for the length of the text");
        states.unchanged("count(11)", 0).unchanged("count(12)", 0);
        for (int step = 1; step <= 60; step++) {
            states.due("type(48)", step).due("count(12)", step).due("count(11)", 0);
        }
        states.unchanged("type(48)", FULL).unchanged("count(12)", 60);
        for (int step = 1; step <= 6; step++) {
            states.due("addFlat(1, 1)", step - 1).due("count(11)", Math.min(step, 4))
                .due("count(12)", 60);
        }
    }
}
