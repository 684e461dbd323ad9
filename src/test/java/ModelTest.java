import java.util.ArrayList;
import java.util.List;

/** Random runs of calls, the same each time, whose answers are held against the model's. */
public final class ModelTest {
    private static final int RUNS = 250;
    private static final int ASKED_AFTER = 48;

    private long seed;

    private ModelTest(long seed) {
        this.seed = seed;
    }

    public static void main(String[] args) {
        for (int run = 0; run < RUNS; run++) {
            String wrong = new ModelTest(run).run(run);
            if (wrong != null) {
                System.out.println("run " + run + ": " + wrong);
                System.exit(1);
            }
        }
    }

    /** From 0 to one less than the bound, by a row of numbers that the seed begins. */
    private int any(int bound) {
        seed = seed * 6364136223846793005L + 1442695040888963407L;
        return (int) ((seed >>> 33) % bound);
    }

    private String run(int run) {
        FlatLottery lottery = new FlatLottery();
        Model model = new Model();
        List<Call> made = new ArrayList<>();
        // Every other run starts with many flats and households, so that rings and chains are long.
        int begun = run % 2 == 0 ? 0 : 4 + any(9);
        while (made.size() < Told.CALLS) {
            String name = made.size() >= 2 * begun ? anyName()
                : made.size() % 2 == 0 ? "addFlat" : "addHousehold";
            Call call = new Call(name, arguments(name));
            made.add(call);
            int got = call.on(lottery);
            int want = call.on(model);
            if (got != want) {
                return made + " answered " + got + ", due is " + want;
            }
            if (made.size() % ASKED_AFTER == 0 && made.size() < Told.CALLS) {
                String difference = Told.after(FlatLottery::new, made)
                    .differenceFrom(Told.after(Model::new, made));
                if (difference != null) {
                    return made + " told " + difference;
                }
            }
        }
        return null;
    }

    private String anyName() {
        String[] often = {"wish", "wish", "wish", "wish", "wish", "draw", "draw", "round", "swap",
            "appeal", "unwish", "change", "moveOut", "text", "addFlat", "addHousehold"};
        int pick = any(often.length + 5);
        String name = pick < often.length ? often[pick] : Call.NAMES[any(Call.NAMES.length)];
        return name.equals("text") ? any(8) == 0 ? "readLists" : "type" : name;
    }

    private int[] arguments(String name) {
        switch (name) {
            case "addFlat": return new int[] {edge(1, 3 + any(3)), edge(1, 30)};
            case "addHousehold": return new int[] {edge(1, 6), edge(50, 200)};
            case "change": return any(2) == 0 ? new int[] {one(), 1, edge(50, 200)}
                : new int[] {one(), 0, edge(1, 6)};
            case "draw": return new int[] {one(), edge(1, 30)};
            case "appeal": return new int[] {one(), edge(0, 2)};
            case "type": return new int[] {character()};
            case "flat": return new int[] {one(), edge(0, 4)};
            case "household": return new int[] {one(), edge(0, 9)};
            case "wished": return new int[] {one(), edge(0, 6)};
            case "ordered": return new int[] {edge(0, 12)};
            case "count": return new int[] {edge(0, 12)};
            case "wouldGet": return new int[] {one(), any(3) == 0 ? FlatLottery.NONE : one()};
            case "wish": case "unwish": case "envies": return new int[] {one(), one()};
            case "decline": case "moveOut": return new int[] {one()};
            default: return new int[0];
        }
    }

    /** Mostly from the least to the greatest; now and then beside that, or far from it. */
    private int edge(int least, int greatest) {
        int[] far = {least - 1, greatest + 1, 0, -1, -5, 1000, 10000, Integer.MIN_VALUE,
            Integer.MAX_VALUE};
        return any(25) == 0 ? far[any(far.length)] : least + any(greatest - least + 1);
    }

    private int one() {
        return any(40) == 0 ? edge(0, 12) : any(12);
    }

    private int character() {
        String likely = "0:1,2;1:0,3:1:10,11;,;:0101";
        return any(60) == 0 ? any(65536) : likely.charAt(any(likely.length()));
    }
}
