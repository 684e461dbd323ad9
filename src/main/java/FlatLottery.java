public final class FlatLottery {
    public static final int UNKNOWN = -1;
    public static final int BAD_VALUE = -2;
    public static final int FULL = -3;
    public static final int NOT_POSSIBLE = -4;
    public static final int NONE = -5;

    private static final int MOST_FLATS = 12;
    private static final int MOST_ROOMS = 5;
    private static final int HIGHEST_RENT = 999;
    private static final int MOST_HOUSEHOLDS = 12;
    private static final int MOST_MEMBERS = 9;
    private static final int HIGHEST_INCOME = 9999;
    private static final int MOST_WISHES = 6;
    private static final int HIGHEST_NUMBER = 999;
    private static final int MOST_APPEALS = 2;
    private static final int LAST_REASON = 2;
    private static final int REASON_HOLDS = 100;
    private static final int FAULTY_TEXT = -100;
    private static final int MOST_CHARACTERS = 60;
    private static final int MOST_STATES = 4;

    private final State state;
    private final State snapshot;
    private boolean hasSnapshot;
    private final History history;
    private final ListText text;
    private final Rings rings;
    private final Matching matching;

    public FlatLottery() {
        state = new State();
        snapshot = new State();
        hasSnapshot = false;
        history = new History();
        text = new ListText();
        rings = new Rings();
        matching = new Matching();
    }

    // ---- flats, households

    public int addFlat(int rooms, int rent) {
        if (!isWithin(rooms, 1, MOST_ROOMS) || !isWithin(rent, 1, HIGHEST_RENT)) {
            return BAD_VALUE;
        }
        if (state.flatCount >= MOST_FLATS) {
            return FULL;
        }
        history.record(state);
        Flat added = state.flats[state.flatCount];
        added.rooms = rooms;
        added.rent = rent;
        state.flatCount++;
        return state.flatCount - 1;
    }

    public int addHousehold(int members, int income) {
        if (!isWithin(members, 1, MOST_MEMBERS) || !isWithin(income, 1, HIGHEST_INCOME)) {
            return BAD_VALUE;
        }
        if (state.householdCount >= MOST_HOUSEHOLDS) {
            return FULL;
        }
        history.record(state);
        state.households[state.householdCount].begin(members, income);
        state.householdCount++;
        return state.householdCount - 1;
    }

    public int change(int household, boolean income, int value) {
        if (!state.hasHousehold(household)) {
            return UNKNOWN;
        }
        if (!isWithin(value, 1, income ? HIGHEST_INCOME : MOST_MEMBERS)) {
            return BAD_VALUE;
        }
        Household changed = state.households[household];
        int previous = income ? changed.income : changed.members;
        if (previous == value) {
            return NONE;
        }
        history.record(state);
        if (income) {
            changed.income = value;
        } else {
            changed.members = value;
        }
        return previous;
    }

    public int wish(int household, int flat) {
        if (!state.hasHousehold(household) || !state.hasFlat(flat)) {
            return UNKNOWN;
        }
        Household wisher = state.households[household];
        if (wisher.wishCount >= MOST_WISHES) {
            return FULL;
        }
        if (wisher.placeOf(flat) != NONE) {
            return NOT_POSSIBLE;
        }
        history.record(state);
        wisher.addWish(flat);
        return wisher.wishCount;
    }

    public int unwish(int household, int flat) {
        if (!state.hasHousehold(household) || !state.hasFlat(flat)) {
            return UNKNOWN;
        }
        Household wisher = state.households[household];
        int place = wisher.placeOf(flat);
        if (place == NONE) {
            return NONE;
        }
        history.record(state);
        wisher.removeWish(flat);
        return place;
    }

    public int readLists() {
        int fault = text.findFault();
        if (fault != NONE) {
            return FAULTY_TEXT - fault;
        }
        if (!text.namesOnlyKnown(state)) {
            return UNKNOWN;
        }
        if (text.hasFlatTwiceInList()) {
            return BAD_VALUE;
        }
        history.record(state);
        text.layLists(state);
        return text.listCount;
    }

    public int draw(int household, int number) {
        if (!state.hasHousehold(household)) {
            return UNKNOWN;
        }
        if (!isWithin(number, 1, HIGHEST_NUMBER)) {
            return BAD_VALUE;
        }
        int owner = state.ownerOfNumber(number);
        if (owner == household) {
            return NONE;
        }
        if (owner != NONE) {
            return NOT_POSSIBLE;
        }
        history.record(state);
        state.households[household].number = number;
        return state.countNumbered();
    }

    // ---- rounds

    public int round() {
        if (state.countNumbered() == 0) {
            return NOT_POSSIBLE;
        }
        history.record(state);
        state.rounds++;
        return state.giveFlatsInOrder();
    }

    public int decline(int household) {
        if (!state.hasHousehold(household)) {
            return UNKNOWN;
        }
        Household decliner = state.households[household];
        int declined = decliner.held;
        if (declined == NONE) {
            return NOT_POSSIBLE;
        }
        history.record(state);
        decliner.held = NONE;
        decliner.removeWish(declined);
        decliner.points = Math.max(decliner.points - 1, 0);
        state.declined++;
        return declined;
    }

    public int appeal(int household, int reason) {
        if (!state.hasHousehold(household)) {
            return UNKNOWN;
        }
        if (!isWithin(reason, 0, LAST_REASON)) {
            return BAD_VALUE;
        }
        Household appealing = state.households[household];
        if (appealing.appeals >= MOST_APPEALS) {
            return FULL;
        }
        history.record(state);
        boolean holds = state.reasonHolds(appealing, reason);
        appealing.appeals++;
        if (!holds) {
            state.refused++;
            return appealing.points;
        }
        appealing.points += reason + 1;
        return appealing.points + REASON_HOLDS;
    }

    public int swap() {
        rings.lookAt(state);
        if (rings.lowestHousehold() == NONE) {
            return NONE;
        }
        history.record(state);
        return rings.swapAll(state);
    }

    public int moveOut(int household) {
        if (!state.hasHousehold(household)) {
            return UNKNOWN;
        }
        Household leaving = state.households[household];
        int left = leaving.held;
        if (left == NONE) {
            return NONE;
        }
        history.record(state);
        leaving.held = NONE;
        return left;
    }

    // ---- texts

    public int type(char character) {
        return text.append(character) ? text.length : FULL;
    }

    public int clearText() {
        int before = text.length;
        text.length = 0;
        return before;
    }

    // ---- history

    public int undo() {
        if (history.size == 0) {
            return NONE;
        }
        history.takeBack(state);
        return history.size;
    }

    public int keep() {
        snapshot.copyFrom(state);
        hasSnapshot = true;
        return state.countHeld();
    }

    public int restore() {
        if (!hasSnapshot) {
            return NONE;
        }
        history.record(state);
        state.copyFrom(snapshot);
        return state.countHeld();
    }

    // ---- what is told

    public int flat(int flat, int what) {
        if (!state.hasFlat(flat)) {
            return UNKNOWN;
        }
        switch (what) {
            case 0: return state.flats[flat].rooms;
            case 1: return state.flats[flat].rent;
            case 2: return state.holderOf(flat);
            case 3: return state.wishersOf(flat);
            case 4: return state.eligibleFor(flat);
            default: return BAD_VALUE;
        }
    }

    public int household(int household, int what) {
        if (!state.hasHousehold(household)) {
            return UNKNOWN;
        }
        Household told = state.households[household];
        switch (what) {
            case 0: return told.members;
            case 1: return told.income;
            case 2: return told.number;
            case 3: return told.points;
            case 4: return told.held;
            case 5: return told.wishCount;
            case 6: return told.appeals;
            case 7: return state.placeInOrder(told);
            case 8: return state.pointsTo(told);
            case 9: return told.passedOver;
            default: return BAD_VALUE;
        }
    }

    public int wished(int household, int place) {
        if (!state.hasHousehold(household)) {
            return UNKNOWN;
        }
        if (place < 0) {
            return BAD_VALUE;
        }
        Household wisher = state.households[household];
        if (place >= wisher.wishCount) {
            return NONE;
        }
        return wisher.wishes[place];
    }

    public int ordered(int rank) {
        if (rank < 0) {
            return BAD_VALUE;
        }
        if (rank >= state.lineUp()) {
            return NONE;
        }
        return state.order[rank];
    }

    public int envies(int household, int other) {
        if (!state.hasHousehold(household) || !state.hasHousehold(other)) {
            return UNKNOWN;
        }
        if (household == other) {
            return BAD_VALUE;
        }
        return state.envyOf(state.households[household], state.households[other]);
    }

    public int wouldGet(int household, int without) {
        if (!state.hasHousehold(household)) {
            return UNKNOWN;
        }
        if (without != NONE && !state.hasHousehold(without)) {
            return UNKNOWN;
        }
        return state.flatIfAllWereFree(household, without);
    }

    public int most() {
        return matching.greatest(state);
    }

    public int count(int what) {
        switch (what) {
            case 0: return state.flatCount;
            case 1: return state.householdCount;
            case 2: return state.countHeld();
            case 3: return state.rounds;
            case 4: return state.countNumbered();
            case 5: return state.countEnvy(1);
            case 6: return state.countEnvy(2);
            case 7: rings.lookAt(state); return rings.countHouseholds();
            case 8: return state.countAppeals();
            case 9: return state.refused;
            case 10: return state.declined;
            case 11: return history.size;
            case 12: return text.length;
            default: return BAD_VALUE;
        }
    }

    private static boolean isWithin(int value, int least, int greatest) {
        return value >= least && value <= greatest;
    }

    private static final class Flat {
        int rooms;
        int rent;

        void copyFrom(Flat other) {
            rooms = other.rooms;
            rent = other.rent;
        }
    }

    private static final class Household {
        final int[] wishes = new int[MOST_WISHES];
        int wishCount;
        int members;
        int income;
        int number;
        int points;
        int held;
        int appeals;
        int passedOver;

        // A row may bear what an undone household left in it, so everything is set anew.
        void begin(int itsMembers, int itsIncome) {
            wishCount = 0;
            members = itsMembers;
            income = itsIncome;
            number = NONE;
            points = 0;
            held = NONE;
            appeals = 0;
            passedOver = 0;
        }

        void copyFrom(Household other) {
            for (int place = 0; place < MOST_WISHES; place++) {
                wishes[place] = other.wishes[place];
            }
            wishCount = other.wishCount;
            members = other.members;
            income = other.income;
            number = other.number;
            points = other.points;
            held = other.held;
            appeals = other.appeals;
            passedOver = other.passedOver;
        }

        int placeOf(int flat) {
            for (int place = 0; place < wishCount; place++) {
                if (wishes[place] == flat) {
                    return place;
                }
            }
            return NONE;
        }

        void addWish(int flat) {
            if (wishCount < MOST_WISHES) {
                wishes[wishCount] = flat;
                wishCount++;
            }
        }

        void removeWish(int flat) {
            int place = placeOf(flat);
            if (place == NONE) {
                return;
            }
            for (int next = place + 1; next < wishCount; next++) {
                wishes[next - 1] = wishes[next];
            }
            wishCount--;
        }

        // A held flat that is not on the list counts as little as none.
        boolean wishesMoreThanItsOwn(int flat) {
            int place = placeOf(flat);
            int ownPlace = placeOf(held);
            return place != NONE && (ownPlace == NONE || place < ownPlace);
        }

        boolean isEligibleFor(Flat flat) {
            return members <= 2 * flat.rooms
                && flat.rooms <= members + 1
                && 3 * flat.rent <= income;
        }

        // Also true if the other one does not stand in the order at all.
        boolean standsAheadOf(Household other) {
            if (number == NONE) {
                return false;
            }
            if (other.number == NONE) {
                return true;
            }
            if (points != other.points) {
                return points > other.points;
            }
            return number < other.number;
        }
    }

    private static final class State {
        final Flat[] flats = new Flat[MOST_FLATS];
        final Household[] households = new Household[MOST_HOUSEHOLDS];
        int flatCount;
        int householdCount;
        int rounds;
        int refused;
        int declined;
        // Told anew by lineUp(), so it is no part of what is copied.
        final int[] order = new int[MOST_HOUSEHOLDS];

        State() {
            for (int flat = 0; flat < MOST_FLATS; flat++) {
                flats[flat] = new Flat();
            }
            for (int household = 0; household < MOST_HOUSEHOLDS; household++) {
                households[household] = new Household();
            }
        }

        void copyFrom(State other) {
            flatCount = other.flatCount;
            for (int flat = 0; flat < flatCount; flat++) {
                flats[flat].copyFrom(other.flats[flat]);
            }
            householdCount = other.householdCount;
            for (int household = 0; household < householdCount; household++) {
                households[household].copyFrom(other.households[household]);
            }
            rounds = other.rounds;
            refused = other.refused;
            declined = other.declined;
        }

        boolean hasFlat(int flat) {
            return flat >= 0 && flat < flatCount;
        }

        boolean hasHousehold(int household) {
            return household >= 0 && household < householdCount;
        }

        int holderOf(int flat) {
            for (int household = 0; household < householdCount; household++) {
                if (households[household].held == flat) {
                    return household;
                }
            }
            return NONE;
        }

        int ownerOfNumber(int number) {
            for (int household = 0; household < householdCount; household++) {
                if (households[household].number == number) {
                    return household;
                }
            }
            return NONE;
        }

        int wishersOf(int flat) {
            int bits = 0;
            for (int household = 0; household < householdCount; household++) {
                if (households[household].placeOf(flat) != NONE) {
                    bits |= 1 << household;
                }
            }
            return bits;
        }

        int eligibleFor(int flat) {
            int bits = 0;
            for (int household = 0; household < householdCount; household++) {
                if (isEligible(households[household], flat)) {
                    bits |= 1 << household;
                }
            }
            return bits;
        }

        boolean isEligible(Household household, int flat) {
            return hasFlat(flat) && household.isEligibleFor(flats[flat]);
        }

        int countHeld() {
            int held = 0;
            for (int household = 0; household < householdCount; household++) {
                if (households[household].held != NONE) {
                    held++;
                }
            }
            return held;
        }

        int countNumbered() {
            int numbered = 0;
            for (int household = 0; household < householdCount; household++) {
                if (households[household].number != NONE) {
                    numbered++;
                }
            }
            return numbered;
        }

        int countAppeals() {
            int appeals = 0;
            for (int household = 0; household < householdCount; household++) {
                appeals += households[household].appeals;
            }
            return appeals;
        }

        int placeInOrder(Household household) {
            if (household.number == NONE) {
                return NONE;
            }
            int ahead = 0;
            for (int other = 0; other < householdCount; other++) {
                if (households[other].standsAheadOf(household)) {
                    ahead++;
                }
            }
            return ahead;
        }

        int lineUp() {
            int standing = 0;
            for (int household = 0; household < householdCount; household++) {
                int place = placeInOrder(households[household]);
                if (place >= 0 && place < MOST_HOUSEHOLDS) {
                    order[place] = household;
                    standing++;
                }
            }
            return standing;
        }

        int giveFlatsInOrder() {
            int given = 0;
            int taken = heldFlats();
            int standing = lineUp();
            for (int rank = 0; rank < standing; rank++) {
                Household next = households[order[rank]];
                if (next.held != NONE) {
                    continue;
                }
                int flat = firstWishOutside(taken, next);
                if (flat == NONE) {
                    next.passedOver++;
                } else {
                    next.held = flat;
                    taken |= 1 << flat;
                    given++;
                }
            }
            return given;
        }

        int flatIfAllWereFree(int household, int without) {
            int taken = 0;
            int standing = lineUp();
            for (int rank = 0; rank < standing; rank++) {
                int next = order[rank];
                if (next == without) {
                    continue;
                }
                int flat = firstWishOutside(taken, households[next]);
                if (next == household) {
                    return flat;
                }
                if (flat != NONE) {
                    taken |= 1 << flat;
                }
            }
            return NONE;
        }

        int heldFlats() {
            int bits = 0;
            for (int household = 0; household < householdCount; household++) {
                int flat = households[household].held;
                if (flat != NONE) {
                    bits |= 1 << flat;
                }
            }
            return bits;
        }

        int firstWishOutside(int taken, Household household) {
            for (int place = 0; place < household.wishCount; place++) {
                int flat = household.wishes[place];
                if ((taken >> flat & 1) == 0 && isEligible(household, flat)) {
                    return flat;
                }
            }
            return NONE;
        }

        boolean reasonHolds(Household household, int reason) {
            switch (reason) {
                case 0: return isPassedOver(household);
                case 1: return isCrowded(household);
                default: return isWronged(household);
            }
        }

        boolean isPassedOver(Household household) {
            return household.number != NONE && household.held == NONE && household.passedOver > 0;
        }

        boolean isCrowded(Household household) {
            return hasFlat(household.held) && household.members > flats[household.held].rooms + 1;
        }

        boolean isWronged(Household household) {
            for (int other = 0; other < householdCount; other++) {
                if (envyOf(household, households[other]) == 2) {
                    return true;
                }
            }
            return false;
        }

        int envyOf(Household household, Household other) {
            int flat = other.held;
            if (!household.wishesMoreThanItsOwn(flat) || !isEligible(household, flat)) {
                return 0;
            }
            return household.standsAheadOf(other) ? 2 : 1;
        }

        int countEnvy(int least) {
            int pairs = 0;
            for (int household = 0; household < householdCount; household++) {
                for (int other = 0; other < householdCount; other++) {
                    if (envyOf(households[household], households[other]) >= least) {
                        pairs++;
                    }
                }
            }
            return pairs;
        }

        int pointsTo(Household household) {
            if (household.held == NONE) {
                return NONE;
            }
            for (int place = 0; place < household.wishCount; place++) {
                int flat = household.wishes[place];
                if (!household.wishesMoreThanItsOwn(flat)) {
                    return NONE;
                }
                int holder = holderOf(flat);
                if (holder != NONE && isEligible(household, flat)) {
                    return holder;
                }
            }
            return NONE;
        }
    }

    private static final class Rings {
        // Each ring moves two households or more up their lists of six flats, so that far fewer
        // than this can follow on one another.
        private static final int MOST_RINGS = 1000;

        private final int[] pointed = new int[MOST_HOUSEHOLDS];
        private int size;

        void lookAt(State state) {
            size = state.householdCount;
            for (int household = 0; household < size; household++) {
                pointed[household] = state.pointsTo(state.households[household]);
            }
        }

        private int after(int household) {
            return household >= 0 && household < size ? pointed[household] : NONE;
        }

        private boolean isInRing(int household) {
            int at = household;
            for (int step = 0; step < size; step++) {
                at = after(at);
                if (at == household) {
                    return true;
                }
            }
            return false;
        }

        int countHouseholds() {
            int inRings = 0;
            for (int household = 0; household < size; household++) {
                if (isInRing(household)) {
                    inRings++;
                }
            }
            return inRings;
        }

        int lowestHousehold() {
            for (int household = 0; household < size; household++) {
                if (isInRing(household)) {
                    return household;
                }
            }
            return NONE;
        }

        int swapAll(State state) {
            int moved = 0;
            for (int ring = 0; ring < MOST_RINGS; ring++) {
                lookAt(state);
                int lowest = lowestHousehold();
                if (lowest == NONE) {
                    return moved;
                }
                moved += swapRingOf(lowest, state);
            }
            return moved;
        }

        private int swapRingOf(int first, State state) {
            int flatOfFirst = state.households[first].held;
            int at = first;
            for (int step = 1; step <= size; step++) {
                int next = after(at);
                if (next == NONE || next == first) {
                    state.households[at].held = flatOfFirst;
                    return step;
                }
                state.households[at].held = state.households[next].held;
                at = next;
            }
            return size;
        }
    }

    private static final class Matching {
        private final int[] flatOf = new int[MOST_HOUSEHOLDS];
        private final int[] takenBy = new int[MOST_FLATS];
        private final int[] askedBy = new int[MOST_FLATS];
        private final int[] waiting = new int[MOST_HOUSEHOLDS];

        int greatest(State state) {
            for (int household = 0; household < MOST_HOUSEHOLDS; household++) {
                flatOf[household] = NONE;
            }
            for (int flat = 0; flat < MOST_FLATS; flat++) {
                takenBy[flat] = NONE;
            }
            int housed = 0;
            for (int household = 0; household < state.householdCount; household++) {
                if (canHouse(household, state)) {
                    housed++;
                }
            }
            return housed;
        }

        // Those who have a flat already may be asked to take another one, so that nobody who is
        // housed loses by it.
        private boolean canHouse(int newcomer, State state) {
            for (int flat = 0; flat < MOST_FLATS; flat++) {
                askedBy[flat] = NONE;
            }
            waiting[0] = newcomer;
            int waitingCount = 1;
            for (int turn = 0; turn < waitingCount; turn++) {
                int asker = waiting[turn];
                Household household = state.households[asker];
                for (int place = 0; place < household.wishCount; place++) {
                    int flat = household.wishes[place];
                    if (!state.isEligible(household, flat) || askedBy[flat] != NONE) {
                        continue;
                    }
                    askedBy[flat] = asker;
                    if (takenBy[flat] == NONE) {
                        handOn(flat);
                        return true;
                    }
                    if (waitingCount < MOST_HOUSEHOLDS) {
                        waiting[waitingCount] = takenBy[flat];
                        waitingCount++;
                    }
                }
            }
            return false;
        }

        private void handOn(int freeFlat) {
            int flat = freeFlat;
            for (int step = 0; step < MOST_HOUSEHOLDS && flat != NONE; step++) {
                int asker = askedBy[flat];
                if (asker == NONE) {
                    return;
                }
                int givenUp = flatOf[asker];
                takenBy[flat] = asker;
                flatOf[asker] = flat;
                flat = givenUp;
            }
        }
    }

    private static final class History {
        private final State[] states = new State[MOST_STATES];
        int size;

        History() {
            for (int place = 0; place < MOST_STATES; place++) {
                states[place] = new State();
            }
        }

        void record(State now) {
            if (size >= MOST_STATES) {
                dropOldest();
            }
            states[size].copyFrom(now);
            size++;
        }

        // The dropped state's rows are used again for the next one that is recorded.
        private void dropOldest() {
            State oldest = states[0];
            for (int place = 1; place < MOST_STATES; place++) {
                states[place - 1] = states[place];
            }
            states[MOST_STATES - 1] = oldest;
            size = MOST_STATES - 1;
        }

        void takeBack(State now) {
            if (size > 0) {
                size--;
                now.copyFrom(states[size]);
            }
        }
    }

    private static final class ListText {
        // The shortest list and the ";" behind it are 4 characters, so there are fewer lists.
        private static final int MOST_LISTS = 16;
        private static final int END = -1;

        private final char[] characters = new char[MOST_CHARACTERS];
        int length;
        int listCount;
        private final int[] listHousehold = new int[MOST_LISTS];
        private final int[] listSize = new int[MOST_LISTS];
        private final int[] listFlats = new int[MOST_LISTS * MOST_WISHES];
        private int at;

        boolean append(char character) {
            if (length >= MOST_CHARACTERS) {
                return false;
            }
            characters[length] = character;
            length++;
            return true;
        }

        int findFault() {
            at = 0;
            listCount = 0;
            while (listCount < MOST_LISTS) {
                if (!readList()) {
                    return at;
                }
                listCount++;
                if (atHand() == END) {
                    return NONE;
                }
                if (atHand() != ';') {
                    return at;
                }
                at++;
            }
            return at;
        }

        private int atHand() {
            return at >= 0 && at < length ? characters[at] : END;
        }

        private boolean readList() {
            int household = readNumber();
            if (household == NONE || atHand() != ':') {
                return false;
            }
            at++;
            listHousehold[listCount] = household;
            for (int place = 0; place < MOST_WISHES; place++) {
                int flat = readNumber();
                if (flat == NONE) {
                    return false;
                }
                listFlats[listCount * MOST_WISHES + place] = flat;
                listSize[listCount] = place + 1;
                if (atHand() != ',' || place == MOST_WISHES - 1) {
                    return true;
                }
                at++;
            }
            return true;
        }

        private int readNumber() {
            int first = digitAtHand();
            if (first == NONE) {
                return NONE;
            }
            at++;
            int second = digitAtHand();
            if (first != 1 || second == NONE || second > 1) {
                return first;
            }
            at++;
            return 10 + second;
        }

        private int digitAtHand() {
            int character = atHand();
            return character >= '0' && character <= '9' ? character - '0' : NONE;
        }

        boolean namesOnlyKnown(State state) {
            for (int list = 0; list < listCount; list++) {
                if (!state.hasHousehold(listHousehold[list])) {
                    return false;
                }
                for (int place = 0; place < listSize[list]; place++) {
                    if (!state.hasFlat(listFlats[list * MOST_WISHES + place])) {
                        return false;
                    }
                }
            }
            return true;
        }

        boolean hasFlatTwiceInList() {
            for (int list = 0; list < listCount; list++) {
                int seen = 0;
                for (int place = 0; place < listSize[list]; place++) {
                    int bit = 1 << listFlats[list * MOST_WISHES + place];
                    if ((seen & bit) != 0) {
                        return true;
                    }
                    seen |= bit;
                }
            }
            return false;
        }

        void layLists(State state) {
            for (int list = 0; list < listCount; list++) {
                int household = listHousehold[list];
                if (!state.hasHousehold(household)) {
                    continue;
                }
                Household wisher = state.households[household];
                wisher.wishCount = 0;
                for (int place = 0; place < listSize[list]; place++) {
                    wisher.addWish(listFlats[list * MOST_WISHES + place]);
                }
            }
        }
    }
}
