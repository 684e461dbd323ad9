/** What the document says under TEXTS, sentence by sentence, up to its bounds and past them. */
public final class TextsTermsTest {
    private static final String HEADING = "TEXTS";
    private static final int FULL = FlatLottery.FULL;
    /** Lists of 60 characters in all. */
    private static final String LONGEST =
        "10:10,11,0,1,2,3;11:10,11,0,1,2,3;0:10,11,0,1,2,3;11:10,0,11";
    /** As many lists as there is room for, and then a place that is left. */
    private static final String MOST_LISTS =
        "0:0;1:1;2:2;3:3;4:4;5:5;6:6;7:7;8:8;9:9;0:1;1:2;2:3;3:4;4:5";

    public static void main(String[] args) {
        atMostSixty();
        anyCharacter();
        emptyAtFirst();
        oneOrMoreLists();
        semicolonBetween();
        aList();
        oneToSixFlats();
        commaBetween();
        zeroToEleven();
        zeroInFront();
        moreThanEleven();
        everyCharacterAtEveryPlace();
        theFirstFault();
        theSixthFlat();
        endsTooEarly();
        Run.end();
    }

    private static Run twelve(String words) {
        return Run.of(HEADING, words).flats(12, 1, 1).households(12, 1, 9);
    }

    /** The text has as many lists. */
    private static void good(String words, String text, int lists) {
        twelve(words).text(text).act("readLists()", lists);
    }

    /** The text has its fault there, and nothing is changed by it. */
    private static void fault(String words, String text, int index) {
        twelve(words).list(0, 3).text(text).unchanged("readLists()", -100 - index).listIs(0, 3);
    }

    private static void atMostSixty() {
        Run run = Run.of(HEADING, "There is a text of at most 60 characters");
        for (int length = 1; length <= 60; length++) {
            run.due("type(49)", length);
        }
        run.due("count(12)", 60).unchanged("type(49)", FULL).unchanged("type(58)", FULL)
            .unchanged("type(0)", FULL).due("count(12)", 60).changesText("clearText()", 60)
            .due("count(12)", 0).changesText("type(49)", 1);
        // The sixtieth character counts, and the one that is refused behind it doesn't.
        twelve("a text of at most 60 characters").text(LONGEST).due("count(12)", 60)
            .act("readLists()", 4).listIs(10, 10, 11, 0, 1, 2, 3).listIs(11, 10, 0, 11)
            .unchanged("type(44)", FULL).unchanged("type(59)", FULL).act("readLists()", 4);
        twelve("a text of at most 60 characters").text(LONGEST.substring(0, 59))
            .act("readLists()", 4).listIs(11, 10, 0, 1).changesText("type(50)", 60)
            .unchanged("readLists()", -159).unchanged("type(49)", FULL)
            .unchanged("readLists()", -159);
        twelve("a text of at most 60 characters").text(MOST_LISTS).due("count(12)", 59)
            .act("readLists()", 15).changesText("type(59)", 60).unchanged("readLists()", -160)
            .unchanged("type(48)", FULL).unchanged("readLists()", -160);
    }

    private static void anyCharacter() {
        Run run = Run.of("## Promise 14: type", "- `character`: any character");
        int[] any = {0, 1, 9, 10, 31, 32, 47, 48, 57, 58, 59, 127, 128, 255, 256, 55296, 57343, 65534,
            65535};
        for (int i = 0; i < any.length; i++) {
            run.changesText("type(" + any[i] + ")", i + 1).due("count(12)", i + 1);
        }
    }

    private static void emptyAtFirst() {
        Run run = Run.of(HEADING, "empty at first");
        run.unchanged("count(12)", 0).unchanged("clearText()", 0).unchanged("readLists()", -100);
        Run.of(HEADING, "empty at first").changesText("type(48)", 1);
    }

    private static void oneOrMoreLists() {
        String words = "A text of lists is one or more lists";
        fault(words, "", 0);
        good(words, "0:0", 1);
        good(words, "0:0;1:1", 2);
        good(words, "11:11;10:10;0:0", 3);
        good(words, MOST_LISTS.substring(0, 55), 14);
        good(words, MOST_LISTS, 15);
        good(words, "0:0;0:1;0:2", 3);
    }

    private static void semicolonBetween() {
        String words = "with \";\" between two";
        fault(words, ";", 0);
        fault(words, ";0:0", 0);
        fault(words, "0:0;;1:1", 4);
        fault(words, "0:0;", 4);
        fault(words, "0:0;1:1;", 8);
        fault(words, "0:0 1:1", 3);
        fault(words, "0:0:1:1", 3);
        fault(words, "0:10:1", 4);
        good(words, "0:0;1:1", 2);
    }

    private static void aList() {
        String words = "a list is a household, \":\", and one to six flats";
        fault(words, ":", 0);
        fault(words, ":0", 0);
        fault(words, ",", 0);
        fault(words, "0", 1);
        fault(words, "0,1", 1);
        fault(words, "0;1", 1);
        fault(words, "0::", 2);
        fault(words, "11", 2);
        fault(words, "11,", 2);
        fault(words, "0:1;1", 5);
        fault(words, "0:1;1;", 5);
        fault(words, "0:1;:1", 4);
        good(words, "11:0", 1);
    }

    private static void oneToSixFlats() {
        String words = "one to six flats with \",\" between two";
        fault(words, "0:", 2);
        fault(words, "0:;1:1", 2);
        fault(words, "0:,1", 2);
        good(words, "0:0", 1);
        good(words, "0:0,1", 1);
        good(words, "0:0,1,2,3,4", 1);
        good(words, "0:0,1,2,3,4,5", 1);
        good(words, "0:11,10,9,8,7,6", 1);
        fault(words, "0:0,1,2,3,4,5,6", 13);
        twelve(words).text("0:0,1,2,3,4,5;11:6,7,8,9,10,11").act("readLists()", 2)
            .listIs(0, 0, 1, 2, 3, 4, 5).listIs(11, 6, 7, 8, 9, 10, 11);
    }

    private static void commaBetween() {
        String words = "with \",\" between two";
        fault(words, "0:0,", 4);
        fault(words, "0:0,,1", 4);
        fault(words, "0:0,;1:1", 4);
        fault(words, "0:0,:1", 4);
        fault(words, "0:0.1", 3);
        fault(words, "0:0, 1", 4);
        good(words, "0:0,1;1:0,1", 2);
    }

    private static void zeroToEleven() {
        for (int number = 0; number <= 11; number++) {
            twelve("Households and flats are 0 to 11").text(number + ":" + number)
                .act("readLists()", 1).listIs(number, number);
        }
        for (int number = 12; number <= 99; number++) {
            fault("Households and flats are 0 to 11", number + ":1", 1);
            fault("Households and flats are 0 to 11", "1:" + number, 3);
            fault("Households and flats are 0 to 11", "1:5," + number, 5);
        }
        fault("Households and flats are 0 to 11", "-1:1", 0);
        fault("Households and flats are 0 to 11", "1:+1", 2);
    }

    private static void zeroInFront() {
        String words = "without a zero in front unless it is the single digit 0";
        good(words, "0:0", 1);
        good(words, "0:0,10", 1);
        fault(words, "00:0", 1);
        fault(words, "01:0", 1);
        fault(words, "011:0", 1);
        fault(words, "0:00", 3);
        fault(words, "0:01", 3);
        fault(words, "0:09", 3);
        fault(words, "0:1,00", 5);
        fault(words, "0:1,010", 5);
        fault(words, "0:1;00:1", 5);
    }

    private static void moreThanEleven() {
        String words = "a digit by which a number would be more than 11 is not allowed";
        good(words, "11:11", 1);
        good(words, "10:10", 1);
        fault(words, "12:11", 1);
        fault(words, "19:1", 1);
        fault(words, "20:1", 1);
        fault(words, "21:1", 1);
        fault(words, "100:1", 2);
        fault(words, "110:1", 2);
        fault(words, "111:1", 2);
        fault(words, "0:12", 3);
        fault(words, "0:22", 3);
        fault(words, "0:100", 4);
        fault(words, "0:119", 4);
        fault(words, "0:1,2,3,4,5,12", 13);
    }

    /** Behind each beginning, the characters that are allowed there; no other one is. */
    private static void everyCharacterAtEveryPlace() {
        String digits = "0123456789";
        String[][] allowed = {{"", digits}, {"0", ":"}, {"1", ":01"}, {"2", ":"}, {"9", ":"},
            {"10", ":"}, {"11", ":"}, {"0:", digits}, {"11:", digits}, {"0:0", ",;"},
            {"0:1", ",;01"}, {"0:2", ",;"}, {"0:9", ",;"}, {"0:10", ",;"}, {"0:11", ",;"},
            {"0:0,", digits}, {"0:0,1", ",;01"}, {"0:0,5", ",;"}, {"0:5,4,3,2,0", ",;"},
            {"0:5,4,3,2,1", ",;01"}, {"0:5,4,3,2,0,", digits}, {"0:5,4,3,2,0,6", ";"},
            {"0:5,4,3,2,0,0", ";"}, {"0:5,4,3,2,0,1", ";01"}, {"0:5,4,3,2,0,10", ";"},
            {"0:5,4,3,2,0,11", ";"}, {"0:1;", digits}, {"0:1;0", ":"}, {"0:1;1", ":01"},
            {"0:1;11", ":"}, {"0:1;11:", digits}, {"0:1;11:1", ",;01"},
            {"0:5,4,3,2,0,11;1:5,4,3,2,0,11", ";"}};
        for (String[] row : allowed) {
            for (int character = 0; character < 512; character++) {
                characterBehind(row[0], (char) character, row[1].indexOf(character) >= 0);
            }
            for (int character : new int[] {0x0660, 0x0661, 0xff10, 0xff11, 0xff1a, 0x3a00, 0x3000,
                0x2c00, 0x8030, 0xffff}) {
                characterBehind(row[0], (char) character, false);
            }
        }
    }

    private static void characterBehind(String beginning, char character, boolean isAllowed) {
        FlatLottery lottery = new FlatLottery();
        for (char typed : (beginning + character).toCharArray()) {
            lottery.type(typed);
        }
        // Without flats and households, a text without a fault has unknown ones.
        int answer = lottery.readLists();
        boolean isFault = answer == -100 - beginning.length();
        Run.check("\"" + beginning + "\" and the character " + (int) character + " behind it answered "
            + answer, isFault != isAllowed);
    }

    private static void theFirstFault() {
        String words = "The fault of the text is the index, from 0, of the first character that is "
            + "not allowed at its place";
        String good = "10:1,11,0;3:5";
        for (int place = 0; place <= good.length(); place++) {
            fault(words, good.substring(0, place) + "?" + good.substring(place), place);
            fault(words, good.substring(0, place) + "?" + good.substring(place) + "?", place);
        }
        fault(words, MOST_LISTS + "?", 59);
        fault(words, "?" + MOST_LISTS, 0);
    }

    private static void theSixthFlat() {
        String words = "(a \",\" behind the sixth flat, too)";
        fault(words, "0:0,1,2,3,4,5,", 13);
        fault(words, "0:0,1,2,3,4,5,6", 13);
        fault(words, "0:0,1,2,3,4,11,", 14);
        fault(words, "0:0,1,2,3,4,5,?", 13);
        fault(words, "0:0,1,2,3,4,5,0", 13);
        fault(words, "0:1;1:0,1,2,3,4,5,6;2:1", 17);
        fault(words, "0:0,1,2,3,4,5;1:0,1,2,3,4,5,", 27);
        good(words, "0:0,1,2,3,4,5;1:1", 2);
    }

    private static void endsTooEarly() {
        String words = "or the length of the text if it ends too early (the empty text does)";
        fault(words, "", 0);
        String whole = "11:10,2,0,3,4,11;1:10";
        // It is a text of lists where it ends behind a flat, and too short elsewhere.
        String lists = "...11.1.1.1.1.11...22";
        for (int length = 1; length <= whole.length(); length++) {
            int due = lists.charAt(length - 1) == '.' ? -100 - length
                : lists.charAt(length - 1) - '0';
            Run run = twelve(words).text(whole.substring(0, length));
            if (due < 0) {
                run.unchanged("readLists()", due);
            } else {
                run.act("readLists()", due);
            }
        }
        fault(words, MOST_LISTS + ";", 60);
        fault(words, MOST_LISTS + ",", 60);
        fault(words, MOST_LISTS.substring(0, 57), 57);
        fault(words, MOST_LISTS.substring(0, 58), 58);
    }
}
