import java.lang.reflect.Method;

/**
 * Each call with all that stands at a boundary for each of its arguments, in all combinations, asked of the class and
 * of the model: in an empty land, in a usual one, in a full one. So calls that are wrong in more than one way tell the
 * finding that is asked first, and none changes what it should not.
 */
public final class SweepTest {
    private static final int[] EDGES = {Integer.MIN_VALUE, -1000001, -2, -1, 0, 1, 2, 3, 4, 5, 6, 7, 8, 9, 10, 11, 12, 13,
        16, 20, 21, 32, 39, 40, 41, 60, 61, 99, 100, 999, 1000, 1023, 1024, 9999, 10000, Integer.MAX_VALUE};
    private static final int[] FEWER = {Integer.MIN_VALUE, -1, 0, 1, 3, 4, 5, 39, 40, 41, Integer.MAX_VALUE};
    /** The calls of a land stay below 512, those that look at it in the end too. */
    private static final int MOST_CALLS = 400;

    private static Pair pair = new Pair();
    private static int wrong = 0;

    public static void main(String[] args) throws ReflectiveOperationException {
        for (int land = 0; land < 3; land++) {
            renew(land);
            for (Method method : Pair.face().values()) {
                sweep(land, method);
            }
            look();
        }
        System.out.println(wrong == 0 ? "all answers agree" : wrong + " runs do not agree");
        System.exit(wrong == 0 ? 0 : 1);
    }

    private static void sweep(int land, Method method) throws ReflectiveOperationException {
        int[] edges = method.getParameterCount() > 3 ? FEWER : EDGES;
        int[] places = new int[method.getParameterCount()];
        int[] arguments = new int[places.length];
        int all = (int) Math.pow(edges.length, places.length);
        for (int k = 0; k < all && wrong < 3; k++) {
            int rest = k;
            for (int i = 0; i < places.length; i++, rest /= edges.length) {
                arguments[i] = edges[rest % edges.length];
            }
            check(pair.ask(method.getName(), arguments));
            if (pair.calls > MOST_CALLS) {
                look();
                renew(land);
            }
        }
    }

    private static void renew(int land) throws ReflectiveOperationException {
        pair = new Pair();
        if (land == 0) return;
        int coins = land == 1 ? 5 : 10;
        for (int c = 0; c < coins; c++) {
            check(pair.ask("coin", c % 7, 3 * c % 11, (5 * c + 4) % 12));
            check(pair.ask("change", c, 1, c % 2 + c / 5));
        }
        check(pair.ask("hold", 3, 2));
        check(pair.ask("hold", 9, 0));
        check(pair.ask("sheet", 0, 8, land == 1 ? 4 : 40));
        check(pair.ask("sheet", 1, 8, 5));
        check(pair.ask("sheet", 3, 32, 3));
        check(pair.ask("write", 0, 1, 1));
        check(pair.ask("write", 1, 0, 5));
        if (land == 1) {
            check(pair.feed("coin 4 6;", 4) && pair.ask("image"));
            return;
        }
        check(pair.feed("pay 0 to 3;".repeat(10) + "pay 1to2", 4));
        for (int day = 0; day < 960; day += 60) {
            check(pair.ask("days", 60));
        }
    }

    private static void look() throws ReflectiveOperationException {
        for (int which = -1; which < 8; which++) {
            check(pair.ask("count", which) && pair.ask("status", which));
        }
        for (int c = 0; c < pair.model.coinsNow().size(); c++) {
            for (int what = 1; what < 6; what++) {
                check(pair.ask("of", c, what));
            }
        }
        for (int s = 0; s < 4; s++) {
            check(pair.ask("strike", s, 0) && pair.ask("judge", s, 0, 1) && pair.ask("load", s) && pair.ask("count", 4));
        }
        check(pair.ask("text") && pair.ask("count", 2) && pair.ask("undo") && pair.ask("count", 2));
    }

    private static void check(boolean agrees) {
        if (!agrees && wrong < 3) {
            wrong++;
            System.out.println(pair.told());
        }
    }
}
