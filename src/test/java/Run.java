/** A run of calls on one fresh lottery, with the answers that are due. */
final class Run {
    private static int wrong = 0;

    private final String title;
    private final FlatLottery lottery = new FlatLottery();

    Run(String title) {
        this.title = title;
    }

    /** The call answers this. */
    Run due(String call, int want) {
        check(call, Calls.answer(lottery, call), want);
        return this;
    }

    /** The call answers this, and nothing that is told differs after it. */
    Run unchanged(String call, int want) {
        String before = Calls.told(lottery);
        due(call, want);
        String after = Calls.told(lottery);
        if (!before.equals(after)) {
            fail(call + " changed " + Calls.firstDifference(before, after));
        }
        return this;
    }

    /** The call is an act: it answers this, records one state, and undo() takes all of it back. */
    Run act(String call, int want) {
        String before = withoutHistory();
        int states = lottery.count(11);
        due(call, want);
        String after = withoutHistory();
        due("count(11)", Math.min(states + 1, 4));
        due("undo()", Math.min(states, 3));
        String undone = withoutHistory();
        if (!before.equals(undone)) {
            fail(call + ", undone, left " + Calls.firstDifference(before, undone));
        }
        due(call, want);
        String again = withoutHistory();
        if (!after.equals(again)) {
            fail(call + ", done again, told " + Calls.firstDifference(after, again));
        }
        return this;
    }

    private String withoutHistory() {
        return Calls.told(lottery).replaceAll("count\\(11\\) = \\d+\n", "");
    }

    /** Puts this text in the place of the one that there was. */
    Run text(String text) {
        lottery.clearText();
        for (int i = 0; i < text.length(); i++) {
            due("type(" + (int) text.charAt(i) + ")", i + 1);
        }
        return this;
    }

    /** So many flats, all with these rooms and this rent. */
    Run flats(int number, int rooms, int rent) {
        for (int i = 0; i < number; i++) {
            due("addFlat(" + rooms + ", " + rent + ")", lottery.count(0));
        }
        return this;
    }

    /** So many households, all with these members and this income. */
    Run households(int number, int members, int income) {
        for (int i = 0; i < number; i++) {
            due("addHousehold(" + members + ", " + income + ")", lottery.count(1));
        }
        return this;
    }

    /** Wishes behind the list of a household, the one that it wishes most first. */
    Run list(int household, int... flats) {
        for (int flat : flats) {
            int size = lottery.household(household, 5);
            due("wish(" + household + ", " + flat + ")", size + 1);
        }
        return this;
    }

    /** Tells the numbers of the households 0, 1, 2 and so on. */
    Run numbers(int... numbers) {
        for (int household = 0; household < numbers.length; household++) {
            due("draw(" + household + ", " + numbers[household] + ")", household + 1);
        }
        return this;
    }

    /** What stands on the list of a household, to its end. */
    Run listIs(int household, int... flats) {
        due("household(" + household + ", 5)", flats.length);
        for (int place = 0; place < flats.length; place++) {
            due("wished(" + household + ", " + place + ")", flats[place]);
        }
        return due("wished(" + household + ", " + flats.length + ")", FlatLottery.NONE);
    }

    /** The flats that the households 0, 1, 2 and so on hold. */
    Run holds(int... flats) {
        for (int household = 0; household < flats.length; household++) {
            due("household(" + household + ", 4)", flats[household]);
        }
        return this;
    }

    private void check(String call, int got, int want) {
        if (got != want) {
            fail(call + " answered " + got + ", due is " + want);
        }
    }

    private void fail(String what) {
        wrong++;
        System.out.println(title + ": " + what);
    }

    /** Ends the test, with exit code 1 if an answer was not as due. */
    static void end() {
        if (wrong != 0) {
            System.out.println(wrong + " answers are not as due");
            System.exit(1);
        }
    }
}
