import java.util.ArrayList;
import java.util.List;

/** Many texts, near good ones, whose faults are held against the model's. */
public final class TextModelTest {
    private static final int TEXTS = 5000;

    private static long seed = 17;

    public static void main(String[] args) {
        int good = 0;
        for (int text = 0; text < TEXTS; text++) {
            String typed = anyText();
            List<Call> made = new ArrayList<>();
            for (int i = 0; i < 11; i++) {
                made.add(new Call("addFlat", 1, 1));
                made.add(new Call("addHousehold", 1, 9));
            }
            for (int i = 0; i < typed.length(); i++) {
                made.add(new Call("type", typed.charAt(i)));
            }
            made.add(new Call("readLists"));
            Told got = Told.after(FlatLottery::new, made);
            Told want = Told.after(Model::new, made);
            if (got.last != want.last || got.differenceFrom(want) != null) {
                System.out.println(typed + " answered " + got.last + ", due is " + want.last);
                System.exit(1);
            }
            good += got.last > 0 ? 1 : 0;
        }
        if (good < TEXTS / 20 || good > TEXTS / 2) {
            System.out.println(good + " good texts of " + TEXTS + " are too few or too many");
            System.exit(1);
        }
    }

    private static int any(int bound) {
        seed = seed * 6364136223846793005L + 1442695040888963407L;
        return (int) ((seed >>> 33) % bound);
    }

    private static String anyText() {
        StringBuilder text = new StringBuilder();
        int lists = 1 + any(4);
        for (int list = 0; list < lists; list++) {
            text.append(list == 0 ? "" : ";").append(any(any(9) == 0 ? 14 : 11)).append(':');
            int from = any(11);
            int flats = 1 + any(any(9) == 0 ? 7 : 6);
            for (int flat = 0; flat < flats; flat++) {
                int step = any(20) == 0 ? 0 : flat;
                text.append(flat == 0 ? "" : ",").append((from + step) % (any(30) == 0 ? 13 : 11));
            }
        }
        spoil(text);
        return text.substring(0, Math.min(text.length(), 60));
    }

    private static void spoil(StringBuilder text) {
        String signs = "0123456789:;,,;: a/";
        int kind = any(5);
        int place = any(text.length());
        if (kind == 0) {
            text.setCharAt(place, signs.charAt(any(signs.length())));
        } else if (kind == 1) {
            text.deleteCharAt(place);
        } else if (kind == 2) {
            text.insert(place, signs.charAt(any(signs.length())));
        } else if (kind == 3 && any(2) == 0) {
            text.setLength(place);
        }
    }
}
