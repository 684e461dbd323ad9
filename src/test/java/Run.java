import java.util.ArrayList;
import java.util.List;

/** A run of calls on one fresh lottery, with the answers that are due. */
final class Run {
    /** One more than the history can have, so that an undo() too many is made, too. */
    private static final int MOST_UNDONE = 5;

    private static int looked = 0;
    private static int wrong = 0;

    private final String title;
    private final FlatLottery lottery = new FlatLottery();
    private final List<Call> made = new ArrayList<>();
    private Told marked;

    Run(String title) {
        this.title = title;
    }

    /** A run for words of the document, which stand under this heading. */
    static Run of(String heading, String words) {
        Run run = new Run(heading + ": \"" + words + "\"");
        if (!Document.says(heading, words)) {
            run.fail("the document does not say so");
        }
        return run;
    }

    /** The call answers this. */
    Run due(String call, int want) {
        if (made.size() >= Told.CALLS) {
            fail("more calls than an object is good for");
        }
        made.add(Call.of(call));
        looked++;
        int got = made.get(made.size() - 1).on(lottery);
        if (got != want) {
            fail(call + " answered " + got + ", due is " + want);
        }
        return this;
    }

    /** The call answers this, and changes nothing: no state, no history, snapshot or text. */
    Run unchanged(String call, int want) {
        Traces before = new Traces(made);
        due(call, want);
        new Traces(made).sameStates(call, before).sameSnapshot(call, before).sameText(call, before);
        return this;
    }

    /** Each of the calls answers this, and changes nothing. */
    Run eachUnchanged(int want, String... calls) {
        for (String call : calls) {
            unchanged(call, want);
        }
        return this;
    }

    /** The call answers this, and changes the text alone. */
    Run changesText(String call, int want) {
        Traces before = new Traces(made);
        due(call, want);
        new Traces(made).sameStates(call, before).sameSnapshot(call, before);
        return this;
    }

    /** The call answers this, and changes the snapshot alone: it is the present state then. */
    Run changesSnapshot(String call, int want) {
        Traces before = new Traces(made);
        due(call, want);
        Traces after = new Traces(made).sameStates(call, before).sameText(call, before);
        after.same(call + ", restored,", after.restored, after.states.get(0));
        return this;
    }

    /**
     * The call is an act: it answers this, and records the state that was before it, in front of
     * the others of the history, of which the oldest one goes if there were four. Snapshot and
     * text stay.
     */
    Run act(String call, int want) {
        Traces before = new Traces(made);
        due(call, want);
        Traces after = new Traces(made);
        int kept = Math.min(before.historySize() + 1, 4);
        after.isHistorySize(call, kept);
        for (int undone = 0; undone < kept; undone++) {
            after.same(call + ", undone " + (undone + 1) + " times,", after.states.get(undone + 1),
                before.states.get(undone));
        }
        after.sameSnapshot(call, before);
        List<Call> undone = and(made, new Call("undo"));
        new Traces(undone).sameText(call, before);
        return this;
    }

    /** Remembers the present state, for isMarked(). */
    Run mark() {
        marked = Told.after(FlatLottery::new, made);
        return this;
    }

    /** The present state is the one that was marked. */
    Run isMarked() {
        looked++;
        String difference = Told.after(FlatLottery::new, made).differenceFrom(marked);
        if (difference != null) {
            fail("not the state that was: " + difference);
        }
        return this;
    }

    /** The present state is another one than the one that was marked. */
    Run isNotMarked() {
        looked++;
        if (Told.after(FlatLottery::new, made).differenceFrom(marked) == null) {
            fail("still the state that was");
        }
        return this;
    }

    /** What can be found out of an object by calls of all kinds, made on other ones like it. */
    private final class Traces {
        /** The present state, and those behind each undo(). */
        private final List<Told> states = new ArrayList<>();
        private final Told restored;
        private final Told read;

        Traces(List<Call> calls) {
            List<Call> undone = new ArrayList<>(calls);
            for (int times = 0; times <= MOST_UNDONE; times++) {
                states.add(Told.after(FlatLottery::new, undone));
                undone.add(new Call("undo"));
            }
            restored = Told.after(FlatLottery::new, and(calls, new Call("restore")));
            read = Told.after(FlatLottery::new, withTheTextRead(calls));
        }

        int historySize() {
            return states.get(0).states;
        }

        void isHistorySize(String call, int size) {
            for (int times = 0; times <= MOST_UNDONE; times++) {
                int due = Math.max(size - times, 0);
                if (states.get(times).states != due) {
                    fail(call + ", undone " + times + " times, left " + states.get(times).states
                        + " states, due is " + due);
                }
            }
        }

        Traces sameStates(String call, Traces before) {
            isHistorySize(call, before.historySize());
            for (int times = 0; times <= MOST_UNDONE; times++) {
                same(call + ", undone " + times + " times,", states.get(times),
                    before.states.get(times));
            }
            return this;
        }

        Traces sameSnapshot(String call, Traces before) {
            if ((restored.last == FlatLottery.NONE) != (before.restored.last == FlatLottery.NONE)) {
                fail(call + " made or took a snapshot");
            } else if (restored.last != FlatLottery.NONE) {
                same(call + ", restored,", restored, before.restored);
            }
            return this;
        }

        Traces sameText(String call, Traces before) {
            if (read.characters != before.read.characters || read.last != before.read.last) {
                fail(call + " changed the text");
            }
            same(call + ", the text read,", read, before.read);
            return this;
        }

        void same(String what, Told got, Told want) {
            looked++;
            String difference = got.differenceFrom(want);
            if (difference != null) {
                fail(what + " told " + difference);
            }
        }
    }

    /** With all flats and households there, so that it is the text that is told. */
    private static List<Call> withTheTextRead(List<Call> calls) {
        List<Call> all = new ArrayList<>(calls);
        for (int i = 0; i < 12; i++) {
            all.add(new Call("addFlat", 1, 1));
            all.add(new Call("addHousehold", 1, 1));
        }
        return and(all, new Call("readLists"));
    }

    private static List<Call> and(List<Call> calls, Call more) {
        List<Call> all = new ArrayList<>(calls);
        all.add(more);
        return all;
    }

    /** Puts this text in the place of the one that there was. */
    Run text(String text) {
        due("clearText()", look("count", 12));
        for (int i = 0; i < text.length(); i++) {
            due("type(" + (int) text.charAt(i) + ")", i + 1);
        }
        return this;
    }

    /** So many flats, all with these rooms and this rent. */
    Run flats(int number, int rooms, int rent) {
        int first = look("count", 0);
        for (int i = 0; i < number; i++) {
            due("addFlat(" + rooms + ", " + rent + ")", first + i);
        }
        return this;
    }

    /** So many households, all with these members and this income. */
    Run households(int number, int members, int income) {
        int first = look("count", 1);
        for (int i = 0; i < number; i++) {
            due("addHousehold(" + members + ", " + income + ")", first + i);
        }
        return this;
    }

    /** Wishes behind the list of a household, the one that it wishes most first. */
    Run list(int household, int... flats) {
        int size = look("household", household, 5);
        for (int i = 0; i < flats.length; i++) {
            due("wish(" + household + ", " + flats[i] + ")", size + 1 + i);
        }
        return this;
    }

    /** Tells the numbers of the households 0, 1, 2 and so on. */
    Run numbers(int... numbers) {
        for (int household = 0; household < numbers.length; household++) {
            due("draw(" + household + ", " + numbers[household] + ")", household + 1);
        }
        return this;
    }

    /**
     * So many flats and households, each of which is eligible for all; household i, with the
     * number i + 1, holds flat i, and the lists are empty.
     */
    Run settled(int number) {
        flats(number, 1, 1).households(number, 1, 9);
        for (int household = 0; household < number; household++) {
            list(household, household);
            due("draw(" + household + ", " + (household + 1) + ")", household + 1);
        }
        due("round()", number);
        for (int household = 0; household < number; household++) {
            due("unwish(" + household + ", " + household + ")", 0);
        }
        return this;
    }

    /** What stands on the list of a household, to its end. */
    Run listIs(int household, int... flats) {
        due("household(" + household + ", 5)", flats.length);
        for (int place = 0; place < flats.length; place++) {
            due("wished(" + household + ", " + place + ")", flats[place]);
        }
        return due("wished(" + household + ", " + flats.length + ")", FlatLottery.NONE);
    }

    /** The flats that the households 0, 1, 2 and so on hold. */
    Run holds(int... flats) {
        for (int household = 0; household < flats.length; household++) {
            due("household(" + household + ", 4)", flats[household]);
        }
        return this;
    }

    /** The households that stand in the order, and no more. */
    Run orderIs(int... households) {
        for (int rank = 0; rank < households.length; rank++) {
            due("ordered(" + rank + ")", households[rank]);
        }
        return due("ordered(" + households.length + ")", FlatLottery.NONE);
    }

    /** An answer that no test is about; it counts as a call of this object all the same. */
    private int look(String name, int... arguments) {
        made.add(new Call(name, arguments));
        return made.get(made.size() - 1).on(lottery);
    }

    private void fail(String what) {
        wrong++;
        System.out.println(title + ": " + what);
    }

    /** Something that is not a run of calls with an answer each; told if it doesn't hold. */
    static void check(String what, boolean holds) {
        looked++;
        if (!holds) {
            wrong++;
            System.out.println(what);
        }
    }

    /** Ends the test, with exit code 1 if an answer was not as due. */
    static void end() {
        if (wrong != 0 || looked == 0) {
            System.out.println(wrong + " of " + looked + " answers are not as due");
            System.exit(1);
        }
    }
}
