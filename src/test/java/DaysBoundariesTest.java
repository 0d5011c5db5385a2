import java.math.BigInteger;

/** The boundaries that the promises 31 to 35 name, each sentence by itself. */
public final class DaysBoundariesTest {
    private static final String TEN = Script.items(10, "coin9 5");

    public static void main(String[] args) {
        days();
        lastDay();
        sevens();
        ahead();
        market();
        toss();
        draws();
        Script.end();
    }

    /** Lines that let days go; no coin is there. */
    private static String toDay(int day) {
        String lines = "days 60 = 0\n".repeat(day / 60);
        return day % 60 == 0 ? lines : lines + "days " + day % 60 + " = 0\n";
    }

    /** z behind some draws, by numbers without bounds. */
    private static int zBehind(long z, int draws) {
        BigInteger at = BigInteger.valueOf(z);
        for (int i = 0; i < draws; i++) {
            at = at.multiply(BigInteger.valueOf(1103515245)).add(BigInteger.valueOf(12345)).mod(BigInteger.ONE.shiftLeft(32));
        }
        return at.intValue();
    }

    /** What the draw gives that is made with z, the one behind some draws ahead of it. */
    private static int draw(long z, int before) {
        return (int) ((zBehind(z, before + 1) & 0xffffffffL) / 256);
    }

    private static void days() {
        Script.each("31 days: n 1 to 60", "", """
            days -2147483648 = BEYOND
            days -1 = BEYOND
            days 0 = BEYOND
            days 1 = 0 | count 0 = 1
            days 2 = 0 | count 0 = 2
            days 59 = 0 | count 0 = 59
            days 60 = 0 | count 0 = 60
            days 61 = BEYOND
            days 2147483647 = BEYOND
            """);
        Script.each("31 days: how many lay so", "", """
            days 1 = 0
            'coin 9 5' = 1 | days 1 = 0 | of 0 5 = 0
            'coin 9 5 ship' = 1 | days 1 = 1 | of 0 4 = 0 | of 0 5 = 1
            'edged 9 5 ship' = 1 | days 1 = 1 | of 0 4 = 1 | of 0 5 = 0
            'forged 9 5 ship' = 1 | days 1 = 1 | of 0 4 = 1 | of 0 5 = 0
            'twice 9 5 ship' = 1 | days 1 = 1 | of 0 4 = 1 | of 0 5 = 2
            'coin 9 5 in 3 ship' = 1 | days 1 = 1 | of 0 4 = 0 | of 0 1 = 3
            """);
        Script.each("31 days: all ten", Script.items(10, "coin9 5ship"), "days 60 = 10 | count 4 = 1023 | count 3 = 10");
        Script.each("31 days: in all", Script.items(9, "twice9 5ship"), "days 60 = 81 | count 3 = 162");
    }

    private static void lastDay() {
        Script.each("31 days: STATE: DAY would be above 999", toDay(939), """
            days 59 = 0 | count 0 = 998 | days 1 = 0 | count 0 = 999 | days 1 = STATE | count 0 = 999
            days 60 = 0 | count 0 = 999 | days 60 = STATE
            days 1 = 0 | days 60 = STATE | count 0 = 940 | days 59 = 0 | count 0 = 999
            """);
        Script.each("31 days: BEYOND ahead of STATE", toDay(999), """
            days 0 = BEYOND
            days -1 = BEYOND
            days 61 = BEYOND
            days 2147483647 = BEYOND
            days 1 = STATE
            days 60 = STATE
            """);
        Script.each("32 ahead: STATE likewise", toDay(939), """
            ahead 0 60 = 0
            days 1 = 0 | ahead 0 59 = 0 | ahead 0 60 = STATE | count 0 = 940
            days 60 = 0 | ahead 0 0 = 0 | ahead 0 1 = STATE | ahead 0 60 = STATE
            """);
        Script.each("32 ahead: BEYOND ahead of STATE", toDay(999),
            "ahead 0 61 = BEYOND | ahead 0 -1 = BEYOND | ahead 4 1 = BEYOND | ahead -1 60 = BEYOND | ahead 3 0 = 0");
        Script.each("31 days: the last DAY whose number 7 divides is 994", toDay(990), """
            'edged 9 5 ship' = 1 | days 4 = 0 | days 1 = 1 | days 4 = 0 | days 1 = STATE
            'edged 9 5 ship' = 1 | days 9 = 1
            """);
    }

    private static void sevens() {
        Script.each("31 days: each DAY whose number 7 divides, ahead of its going", "'edged 9 5 ship' = 1", """
            days 1 = 1                         # 0
            days 6 = 1
            days 7 = 1                         # 0 to 6
            days 8 = 2                         # 0 and 7
            days 14 = 2
            days 15 = 3
            days 56 = 8
            days 57 = 9
            days 60 = 9
            days 1 = 1 | days 6 = 0 | days 1 = 1 | days 6 = 0 | days 1 = 1
            days 1 = 1 | days 7 = 1 | days 6 = 0
            """);
        Script.each("31 days: what TURNS OVER on a DAY lies so on the next", "'worn 9 5 ship' = 1",
            "days 7 = 1 | turn 0 = 3 | of 0 4 = 1 | days 1 = 1 | of 0 6 = 6");
    }

    private static void ahead() {
        String land = "'worn 9 5 ship;coin 7 6 in 3 ship' = 2\n";
        Script.each("32 ahead: n 0 to 60", land, """
            ahead 0 -1 = BEYOND
            ahead 0 0 = 5
            ahead 0 1 = 8
            ahead 0 60 = 8
            ahead 0 61 = BEYOND
            ahead 0 2147483647 = BEYOND
            ahead 0 -2147483648 = BEYOND
            """);
        Script.each("32 ahead: PURSES 0 to 3", land, """
            ahead -1 1 = BEYOND
            ahead 0 1 = 8
            ahead 1 1 = 0
            ahead 3 1 = 7
            ahead 4 1 = BEYOND
            ahead 2147483647 1 = BEYOND
            """);
        Script.each("32 ahead: nothing changes", land, "ahead 0 60 = 8 | count 0 = 0 | count 3 = 0 | count 4 = 0");
    }

    private static void market() {
        Script.each("33 market: n 1 to 12", "'coin 9 5' = 1", """
            market -1 = BEYOND | count 6 = 1
            market 0 = BEYOND | count 6 = 1
            market 13 = BEYOND | count 6 = 1
            market 2147483647 = BEYOND
            market -2147483648 = BEYOND
            """);
        Script.each("33 market: STATE: there are none, behind BEYOND", "", """
            market 0 = BEYOND
            market 13 = BEYOND
            market 1 = STATE | count 6 = 1
            market 12 = STATE | count 6 = 1
            """);
        for (long seed : new long[] {1, 0, -1, 2147483647L, -2147483648L, 77, -1000001}) {
            for (int coins = 1; coins <= 10; coins += coins < 3 ? 1 : 7) {
                market(seed, coins, 1);
                market(seed, coins, 12);
            }
        }
    }

    /** A market of so many coins, worth 10 with the king up, 3 with the ship up. */
    private static void market(long seed, int coins, int n) {
        int[] purse = new int[coins];
        int[] turned = new int[coins];
        for (int i = 0; i < n; i++) {
            int c = draw(seed, 2 * i) % coins;
            int to = draw(seed, 2 * i + 1) % 4;
            turned[c] += purse[c] == to ? 0 : 1;
            purse[c] = to;
        }
        int sum = 0;
        StringBuilder lines = new StringBuilder();
        for (int c = 0; c < coins; c++) {
            sum += purse[c] > 0 ? 0 : turned[c] % 2 == 0 ? 10 : 3;
            lines.append("of ").append(c).append(" 1 = ").append(purse[c]).append('\n');
            lines.append("of ").append(c).append(" 5 = ").append(turned[c]).append('\n');
        }
        Script.run("33 market: " + n + " times of " + coins + " COINS from z " + seed, Script.items(coins, "coin10 3")
            + "seed " + seed + " = 1\nmarket " + n + " = " + sum + "\ncount 6 = " + zBehind(seed, 2 * n) + "\n" + lines);
    }

    private static void toss() {
        Script.each("34 toss: n 0 to 20", "'coin 9 5' = 1", """
            toss 1 -1 = BEYOND | count 6 = 1
            toss 1 0 = 0 | count 6 = 1
            toss 1 21 = BEYOND | count 6 = 1
            toss 1 2147483647 = BEYOND
            toss 1 -2147483648 = BEYOND
            """);
        Script.each("34 toss: bits of no COIN", "'coin 9 5;coin 9 5 in 3' = 2", """
            toss 4 1 = BEYOND | count 6 = 1
            toss 7 1 = BEYOND | count 6 = 1
            toss -1 1 = BEYOND
            toss 4 0 = BEYOND
            toss -2147483648 1 = BEYOND
            toss 2147483647 1 = BEYOND
            """);
        Script.each("34 toss: no coins", "", "toss 0 20 = 0 | count 6 = 1 | toss 1 1 = BEYOND | toss 0 21 = BEYOND");
        Script.each("34 toss: an empty set draws nothing", TEN, "toss 0 20 = 0 | count 6 = 1");
        Script.each("34 toss: all ten", TEN, "toss 1024 1 = BEYOND | toss 1023 0 = 0 | count 6 = 1");
        for (long seed : new long[] {1, 0, -1, 2147483647L, -2147483648L}) {
            toss(seed, 1, 1);
            toss(seed, 1, 20);
            toss(seed, 3, 2);
            toss(seed, 10, 1);
            toss(seed, 10, 20);
        }
    }

    private static void toss(long seed, int coins, int n) {
        int kings = 0;
        for (int i = 0; i < n * coins; i++) {
            kings += draw(seed, i) % 2 == 0 ? 1 : 0;
        }
        Script.run("34 toss: " + coins + " COINS " + n + " times from z " + seed, TEN + "change 0 4 1 = 0\n"
            + "seed " + seed + " = 1\ntoss " + ((1 << coins) - 1) + " " + n + " = " + kings + "\ncount 6 = " + zBehind(seed, n * coins)
            + "\ncount 4 = 1022\ncount 3 = 0\n");
    }

    private static void draws() {
        Script.each("35 seed: z is told, 1 at first, may be any int", "", """
            count 6 = 1 | seed 0 = 1 | count 6 = 0
            seed 2147483647 = 1 | seed -2147483648 = 2147483647 | seed -1 = -2147483648 | seed 1 = -1
            """);
        Script.each("draws: z 0 gives 12345 >>> 8", "'coin 9 5' = 1", "seed 0 = 1 | toss 1 1 = 1 | count 6 = 12345");
        // 1103515245 + 12345 = 1103527590; that times 1103515245 and 12345 is above all ints: -1770082073 by its bits.
        Script.each("draws: z wraps around", "'coin 9 5' = 1", "toss 1 1 = 1 | count 6 = 1103527590\n"
            + "toss 1 2 = 2 | count 6 = " + zBehind(1, 2) + "\n");
        Script.expect("draws: the wrapped z is below 0", zBehind(1, 2) < 0 ? 1 : 0, 1);
        Script.expect("draws: none gives a number below 0", draw(1, 1), 9862832);
    }
}
