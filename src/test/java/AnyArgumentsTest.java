/** No call throws or fails to end, for any arguments, in any state, after any number of calls. */
public final class AnyArgumentsTest {
    private static final int[] NUMBERS = {Integer.MIN_VALUE, -6, -5, -2, -1, 0, 1, 2, 5, 6, 7, 9, 10,
        11, 12, 13, 31, 32, 999, 1000, 9999, 10000, 65535, 715827883, Integer.MAX_VALUE};

    public static void main(String[] args) {
        FlatLottery empty = new FlatLottery();
        FlatLottery full = new FlatLottery();
        for (int i = 0; i < 13; i++) {
            full.addFlat(1 + i % 5, 1);
            full.addHousehold(1 + i % 9, 9999);
        }
        for (int pass = 0; pass < 3; pass++) {
            callAll(empty);
            callAll(full);
        }
    }

    private static void callAll(FlatLottery lottery) {
        for (String name : Call.NAMES) {
            int arguments = Call.method(FlatLottery.class, name).getParameterCount();
            int[] given = new int[arguments];
            int ways = 1;
            for (int i = 0; i < arguments; i++) {
                ways *= NUMBERS.length;
            }
            for (int way = 0; way < ways; way++) {
                int rest = way;
                for (int i = 0; i < arguments; i++) {
                    given[i] = NUMBERS[rest % NUMBERS.length];
                    rest /= NUMBERS.length;
                }
                new Call(name, given).on(lottery);
            }
        }
    }
}
