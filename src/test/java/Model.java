import java.util.ArrayDeque;
import java.util.ArrayList;
import java.util.Comparator;
import java.util.Deque;
import java.util.HashMap;
import java.util.HashSet;
import java.util.List;
import java.util.Map;
import java.util.Objects;
import java.util.Set;
import java.util.regex.Matcher;
import java.util.regex.Pattern;

/**
 * The document said once more, in other ways than the program goes, with the Java library and
 * without a thought for room or speed; random runs of calls are held against it.
 */
final class Model {
    private static final int UNKNOWN = -1;
    private static final int BAD_VALUE = -2;
    private static final int FULL = -3;
    private static final int NOT_POSSIBLE = -4;
    private static final int NONE = -5;
    private static final String NUMBER = "(?:1[01]|[0-9])";
    private static final String LIST = NUMBER + ":" + NUMBER + "(?:," + NUMBER + "){0,5}";
    private static final Pattern LISTS = Pattern.compile(LIST + "(?:;" + LIST + ")*");

    private record Flat(int rooms, int rent) {
    }

    private static final class Household {
        int members;
        int income;
        Integer number;
        int points;
        Integer held;
        int appeals;
        int passed;
        List<Integer> list = new ArrayList<>();

        Household copy() {
            Household copy = new Household();
            copy.members = members;
            copy.income = income;
            copy.number = number;
            copy.points = points;
            copy.held = held;
            copy.appeals = appeals;
            copy.passed = passed;
            copy.list = new ArrayList<>(list);
            return copy;
        }
    }

    private static final class State {
        List<Flat> flats = new ArrayList<>();
        List<Household> households = new ArrayList<>();
        int rounds;
        int refused;
        int declined;

        State copy() {
            State copy = new State();
            copy.flats = new ArrayList<>(flats);
            for (Household household : households) {
                copy.households.add(household.copy());
            }
            copy.rounds = rounds;
            copy.refused = refused;
            copy.declined = declined;
            return copy;
        }
    }

    private State now = new State();
    private State snapshot = null;
    private final Deque<State> history = new ArrayDeque<>();
    private String text = "";

    private void record() {
        history.addLast(now.copy());
        while (history.size() > 4) {
            history.removeFirst();
        }
    }

    private boolean noFlat(int flat) {
        return flat < 0 || flat >= now.flats.size();
    }

    private boolean noHousehold(int household) {
        return household < 0 || household >= now.households.size();
    }

    private boolean eligible(Household household, int flat) {
        Flat told = now.flats.get(flat);
        return household.members <= 2 * told.rooms && told.rooms <= household.members + 1
            && 3 * told.rent <= household.income;
    }

    /** How much a household wishes a flat, or none (null): the more, the greater. */
    private static int worth(Household household, Integer flat) {
        int place = flat == null ? -1 : household.list.indexOf(flat);
        return place < 0 ? 0 : 100 - place;
    }

    private static int orNone(Integer value) {
        return value == null ? NONE : value;
    }

    private List<Household> order() {
        List<Household> order = new ArrayList<>(now.households);
        order.removeIf(household -> household.number == null);
        order.sort(Comparator.<Household>comparingInt(household -> -household.points)
            .thenComparingInt(household -> household.number));
        return order;
    }

    private Household holder(int flat) {
        for (Household household : now.households) {
            if (Objects.equals(household.held, flat)) {
                return household;
            }
        }
        return null;
    }

    private boolean envious(Household household, Household other) {
        return other.held != null && eligible(household, other.held)
            && worth(household, other.held) > worth(household, household.held);
    }

    private boolean behind(Household household, Household other) {
        List<Household> order = order();
        return order.contains(household)
            && (!order.contains(other) || order.indexOf(other) > order.indexOf(household));
    }

    private Household pointed(Household household) {
        if (household.held == null) {
            return null;
        }
        Household best = null;
        for (Household other : now.households) {
            if (envious(household, other)
                && (best == null || worth(household, other.held) > worth(household, best.held))) {
                best = other;
            }
        }
        return best;
    }

    /** The rings, each from its lowest household on. */
    private List<List<Household>> rings() {
        List<List<Household>> rings = new ArrayList<>();
        Set<Household> known = new HashSet<>();
        for (Household first : now.households) {
            List<Household> row = new ArrayList<>();
            Household at = first;
            while (at != null && !row.contains(at)) {
                row.add(at);
                at = pointed(at);
            }
            if (at == first && !known.contains(first)) {
                rings.add(row);
                known.addAll(row);
            }
        }
        return rings;
    }

    private int pairs(boolean justOnly) {
        int pairs = 0;
        for (Household household : now.households) {
            for (Household other : now.households) {
                if (envious(household, other) && (!justOnly || behind(household, other))) {
                    pairs++;
                }
            }
        }
        return pairs;
    }

    private int held() {
        return (int) now.households.stream().filter(household -> household.held != null).count();
    }

    private int numbered() {
        return (int) now.households.stream().filter(household -> household.number != null).count();
    }

    int addFlat(int rooms, int rent) {
        if (rooms < 1 || rooms > 5 || rent < 1 || rent > 999) {
            return BAD_VALUE;
        }
        if (now.flats.size() == 12) {
            return FULL;
        }
        record();
        now.flats.add(new Flat(rooms, rent));
        return now.flats.size() - 1;
    }

    int addHousehold(int members, int income) {
        if (members < 1 || members > 9 || income < 1 || income > 9999) {
            return BAD_VALUE;
        }
        if (now.households.size() == 12) {
            return FULL;
        }
        record();
        Household added = new Household();
        added.members = members;
        added.income = income;
        now.households.add(added);
        return now.households.size() - 1;
    }

    int change(int household, boolean income, int value) {
        if (noHousehold(household)) {
            return UNKNOWN;
        }
        if (value < 1 || value > (income ? 9999 : 9)) {
            return BAD_VALUE;
        }
        Household changed = now.households.get(household);
        int before = income ? changed.income : changed.members;
        if (before == value) {
            return NONE;
        }
        record();
        if (income) {
            changed.income = value;
        } else {
            changed.members = value;
        }
        return before;
    }

    int wish(int household, int flat) {
        if (noHousehold(household) || noFlat(flat)) {
            return UNKNOWN;
        }
        List<Integer> list = now.households.get(household).list;
        if (list.size() == 6) {
            return FULL;
        }
        if (list.contains(flat)) {
            return NOT_POSSIBLE;
        }
        record();
        list.add(flat);
        return list.size();
    }

    int unwish(int household, int flat) {
        if (noHousehold(household) || noFlat(flat)) {
            return UNKNOWN;
        }
        List<Integer> list = now.households.get(household).list;
        int place = list.indexOf(flat);
        if (place < 0) {
            return NONE;
        }
        record();
        list.remove(place);
        return place;
    }

    int readLists() {
        if (!LISTS.matcher(text).matches()) {
            return -100 - fault();
        }
        List<Integer> households = new ArrayList<>();
        List<List<Integer>> lists = new ArrayList<>();
        for (String part : text.split(";")) {
            String[] halves = part.split(":");
            households.add(Integer.parseInt(halves[0]));
            List<Integer> list = new ArrayList<>();
            for (String flat : halves[1].split(",")) {
                list.add(Integer.parseInt(flat));
            }
            lists.add(list);
        }
        if (households.stream().anyMatch(this::noHousehold)
            || lists.stream().anyMatch(list -> list.stream().anyMatch(this::noFlat))) {
            return UNKNOWN;
        }
        if (lists.stream().anyMatch(list -> new HashSet<>(list).size() < list.size())) {
            return BAD_VALUE;
        }
        record();
        for (int i = 0; i < lists.size(); i++) {
            now.households.get(households.get(i)).list = new ArrayList<>(lists.get(i));
        }
        return lists.size();
    }

    /** The first character with which the text is no longer the beginning of a text of lists. */
    private int fault() {
        for (int end = 1; end <= text.length(); end++) {
            Matcher matcher = LISTS.matcher(text.substring(0, end));
            if (!matcher.matches() && !matcher.hitEnd()) {
                return end - 1;
            }
        }
        return text.length();
    }

    int draw(int household, int number) {
        if (noHousehold(household)) {
            return UNKNOWN;
        }
        if (number < 1 || number > 999) {
            return BAD_VALUE;
        }
        Household drawn = now.households.get(household);
        for (Household other : now.households) {
            if (other != drawn && Objects.equals(other.number, number)) {
                return NOT_POSSIBLE;
            }
        }
        if (Objects.equals(drawn.number, number)) {
            return NONE;
        }
        record();
        drawn.number = number;
        return numbered();
    }

    int round() {
        if (numbered() == 0) {
            return NOT_POSSIBLE;
        }
        record();
        now.rounds++;
        int before = held();
        for (Household household : order()) {
            for (int flat : household.list) {
                if (household.held == null && holder(flat) == null && eligible(household, flat)) {
                    household.held = flat;
                }
            }
        }
        for (Household household : order()) {
            household.passed += household.held == null ? 1 : 0;
        }
        return held() - before;
    }

    int decline(int household) {
        if (noHousehold(household)) {
            return UNKNOWN;
        }
        Household decliner = now.households.get(household);
        if (decliner.held == null) {
            return NOT_POSSIBLE;
        }
        record();
        Integer flat = decliner.held;
        decliner.held = null;
        decliner.list.remove(flat);
        if (decliner.points > 0) {
            decliner.points--;
        }
        now.declined++;
        return flat;
    }

    int appeal(int household, int reason) {
        if (noHousehold(household)) {
            return UNKNOWN;
        }
        if (reason < 0 || reason > 2) {
            return BAD_VALUE;
        }
        Household told = now.households.get(household);
        if (told.appeals == 2) {
            return FULL;
        }
        boolean holds = reason == 0
            ? told.number != null && told.held == null && told.passed >= 1
            : reason == 1
            ? told.held != null && told.members > now.flats.get(told.held).rooms() + 1
            : now.households.stream().anyMatch(other -> envious(told, other) && behind(told, other));
        record();
        told.appeals++;
        if (holds) {
            told.points += 1 + reason;
        } else {
            now.refused++;
        }
        return told.points + (holds ? 100 : 0);
    }

    int swap() {
        if (rings().isEmpty()) {
            return NONE;
        }
        record();
        int moved = 0;
        while (!rings().isEmpty()) {
            List<Household> ring = rings().get(0);
            Map<Household, Integer> gets = new HashMap<>();
            for (Household household : ring) {
                gets.put(household, pointed(household).held);
            }
            gets.forEach((household, flat) -> household.held = flat);
            moved += ring.size();
        }
        return moved;
    }

    int moveOut(int household) {
        if (noHousehold(household)) {
            return UNKNOWN;
        }
        Household leaving = now.households.get(household);
        if (leaving.held == null) {
            return NONE;
        }
        record();
        int flat = leaving.held;
        leaving.held = null;
        return flat;
    }

    int type(char character) {
        if (text.length() == 60) {
            return FULL;
        }
        text += character;
        return text.length();
    }

    int clearText() {
        int length = text.length();
        text = "";
        return length;
    }

    int undo() {
        if (history.isEmpty()) {
            return NONE;
        }
        now = history.removeLast();
        return history.size();
    }

    int keep() {
        snapshot = now.copy();
        return held();
    }

    int restore() {
        if (snapshot == null) {
            return NONE;
        }
        record();
        now = snapshot.copy();
        return held();
    }

    int flat(int flat, int what) {
        if (noFlat(flat)) {
            return UNKNOWN;
        }
        if (what < 0 || what > 4) {
            return BAD_VALUE;
        }
        if (what == 0) {
            return now.flats.get(flat).rooms();
        }
        if (what == 1) {
            return now.flats.get(flat).rent();
        }
        if (what == 2) {
            return now.households.indexOf(holder(flat)) < 0 ? NONE
                : now.households.indexOf(holder(flat));
        }
        int bits = 0;
        for (int i = now.households.size() - 1; i >= 0; i--) {
            Household household = now.households.get(i);
            boolean told = what == 3 ? household.list.contains(flat) : eligible(household, flat);
            bits = 2 * bits + (told ? 1 : 0);
        }
        return bits;
    }

    int household(int household, int what) {
        if (noHousehold(household)) {
            return UNKNOWN;
        }
        Household told = now.households.get(household);
        int place = order().indexOf(told);
        int pointed = now.households.indexOf(pointed(told));
        return switch (what) {
            case 0 -> told.members;
            case 1 -> told.income;
            case 2 -> orNone(told.number);
            case 3 -> told.points;
            case 4 -> orNone(told.held);
            case 5 -> told.list.size();
            case 6 -> told.appeals;
            case 7 -> place < 0 ? NONE : place;
            case 8 -> pointed < 0 ? NONE : pointed;
            case 9 -> told.passed;
            default -> BAD_VALUE;
        };
    }

    int wished(int household, int place) {
        if (noHousehold(household)) {
            return UNKNOWN;
        }
        if (place < 0) {
            return BAD_VALUE;
        }
        List<Integer> list = now.households.get(household).list;
        return place < list.size() ? list.get(place) : NONE;
    }

    int ordered(int rank) {
        if (rank < 0) {
            return BAD_VALUE;
        }
        List<Household> order = order();
        return rank < order.size() ? now.households.indexOf(order.get(rank)) : NONE;
    }

    int envies(int household, int other) {
        if (noHousehold(household) || noHousehold(other)) {
            return UNKNOWN;
        }
        if (household == other) {
            return BAD_VALUE;
        }
        Household one = now.households.get(household);
        Household two = now.households.get(other);
        return envious(one, two) ? behind(one, two) ? 2 : 1 : 0;
    }

    /** Goes the way of the words: a copy in which all flats are free, and a round in it. */
    int wouldGet(int household, int without) {
        if (noHousehold(household) || without != NONE && noHousehold(without)) {
            return UNKNOWN;
        }
        Model other = new Model();
        other.now = now.copy();
        for (Household emptied : other.now.households) {
            emptied.held = null;
        }
        if (without != NONE) {
            other.now.households.get(without).number = null;
        }
        other.round();
        return orNone(other.now.households.get(household).held);
    }

    /** All sets of flats (as bits) that some of the households looked at so far could hold. */
    int most() {
        Set<Integer> taken = new HashSet<>(Set.of(0));
        for (Household household : now.households) {
            for (int before : List.copyOf(taken)) {
                for (int flat : household.list) {
                    if (eligible(household, flat)) {
                        taken.add(before | 1 << flat);
                    }
                }
            }
        }
        return taken.stream().mapToInt(Integer::bitCount).max().orElse(0);
    }

    int count(int what) {
        return switch (what) {
            case 0 -> now.flats.size();
            case 1 -> now.households.size();
            case 2 -> held();
            case 3 -> now.rounds;
            case 4 -> numbered();
            case 5 -> pairs(false);
            case 6 -> pairs(true);
            case 7 -> rings().stream().mapToInt(List::size).sum();
            case 8 -> now.households.stream().mapToInt(household -> household.appeals).sum();
            case 9 -> now.refused;
            case 10 -> now.declined;
            case 11 -> history.size();
            case 12 -> text.length();
            default -> BAD_VALUE;
        };
    }
}
