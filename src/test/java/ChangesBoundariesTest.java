/** The boundaries that the promises 20 to 25 name, each sentence by itself. */
public final class ChangesBoundariesTest {
    private static final String[] NAMES = {"gain", "lot", "deal", "deals"};

    public static void main(String[] args) {
        purses();
        gains();
        nothingGained();
        ties();
        done();
        manyDeals();
        partners();
        rounds();
        Script.end();
    }

    /** The answers of gain, lot, deal and deals to the same arguments, each on a land of its own. */
    private static void changes(String sentence, String land, String arguments, String answers) {
        String[] dues = answers.split(" ");
        for (int i = 0; i < NAMES.length; i++) {
            Script.each((20 + i) + " " + NAMES[i] + ": " + sentence, land, NAMES[i] + " " + arguments + " = " + dues[i]);
        }
    }

    private static void purses() {
        String two = "'coin 5 9;coin 5 8 in 3' = 2\n";
        for (String beyond : new String[] {"-1 0", "4 0", "0 -1", "0 4", "2147483647 0", "0 -2147483648"}) {
            changes("PURSES 0 to 3", two, beyond, "BEYOND BEYOND BEYOND BEYOND");
        }
        changes("PURSES 0 to 3", two, "0 3", "7 1 7 1");
        changes("PURSES 0 to 3", two, "3 0", "7 2 7 1");
        for (String same : new String[] {"0 0", "3 3", "1 1"}) {
            changes("also one and the same", two, same, "BEYOND BEYOND BEYOND BEYOND");
        }
        changes("also one and the same, without coins", "", "2 2", "BEYOND BEYOND BEYOND BEYOND");
    }

    private static void gains() {
        changes("a gain of 1", "'coin 5 6;coin 5 5 in 1' = 2", "0 1", "1 1 1 1");
        changes("a CHANGE that gains nothing is none", "'coin 5 5;coin 5 5 in 1' = 2", "0 1", "NONE NONE NONE 0");
        changes("a CHANGE that loses is none", "'coin 5 4;coin 5 5 in 1' = 2", "0 1", "NONE NONE NONE 0");
        changes("neither less: the first has as much", "'coin 5 9;coin 5 5 in 1' = 2", "0 1", "4 1 4 1");
        changes("neither less: the first would have one less", "'coin 5 9;coin 5 4 in 1' = 2", "0 1", "NONE NONE NONE 0");
        changes("neither less: the first has one more", "'coin 5 9;coin 5 6 in 1' = 2", "0 1", "5 1 5 1");
        changes("neither less: the other has as much", "'coin 5 5;coin 5 9 in 1' = 2", "0 1", "4 1 4 1");
        changes("neither less: the other would have one less", "'coin 5 4;coin 5 9 in 1' = 2", "0 1", "NONE NONE NONE 0");
        changes("neither less: the other has one more", "'coin 5 6;coin 5 9 in 1' = 2", "0 1", "5 1 5 1");
        changes("a PAYMENT of 0 alone: one less", "'coin 5 9;coin 4 9 in 1' = 2", "0 1", "NONE NONE NONE 0");
        changes("a PAYMENT of 0 alone: one more", "'coin 5 9;coin 6 9 in 1' = 2", "0 1", "NONE NONE NONE 0");
        changes("the most that both gain", "'" + "coin0 99;".repeat(9) + "coin0 99' = 10\n", "0 1", "990 1023 990 1");
        changes("the most, though a smaller one is there", "'coin5 6;coin5 9;coin5 5in1' = 3", "0 1", "4 2 4 1");
        changes("more COINS, if these gain more", "'coin5 6;coin5 9;coin5 5in1;coin5 5in1' = 4", "0 1", "5 3 5 1");
    }

    private static void nothingGained() {
        changes("NONE: both are empty", "", "0 1", "NONE NONE NONE 0");
        changes("NONE: one is empty", "'coin 5 9' = 1", "0 1", "NONE NONE NONE 0");
        changes("NONE: the first is empty", "'coin 5 9' = 1", "1 0", "NONE NONE NONE 0");
        changes("any COIN goes: one worth 0, for nothing", "'coin 0 1' = 1", "0 1", "1 1 1 1");
        changes("any COIN goes: one worth 0 comes, for nothing", "'coin 0 1 in 1' = 1", "0 1", "1 0 1 1");
        changes("one worth 0 that stays so", "'coin 0 0' = 1", "0 1", "NONE NONE NONE 0");
        changes("not of coins elsewhere", "'coin 5 9;coin 5 9 in 1' = 2", "0 2", "NONE NONE NONE 0");
        changes("a FOREIGN one comes home", "'foreign 10 9;coin 5 5 in 3' = 2", "0 3", "3 1 3 1");
    }

    private static void ties() {
        changes("as much gain: the least GIVEN", "'coin5 6;coin5 6;coin5 5in1' = 3", "0 1", "1 1 1 1");
        Script.each("21 lot: the least GIVEN ahead of the least BACK", "'coin11 11in1;coin10 10in1;coin10 11;coin1 1' = 4", """
            gain 0 1 = 1 | lot 0 1 = 4            # the second for the third, not the first for third and fourth
            deal 0 1 = 1 | purse 0 0 = 10 | purse 1 0 = 5
            gain 1 0 = 1 | lot 1 0 = 1            # here the first for third and fourth
            deal 1 0 = 1 | purse 0 0 = 1 | purse 1 0 = 14
            """);
        Script.each("22 deal: the same GIVEN: the least BACK", "'coin5 6;coin5 5in1;coin5 5in1' = 3",
            "gain 0 1 = 1 | lot 0 1 = 1 | lot 1 0 = 2 | deal 0 1 = 1 | purse 0 0 = 2 | purse 1 0 = 5");
        Script.each("22 deal: the same GIVEN: the least BACK, not the fewest COINS",
            "'coin4 6;coin2 2in1;coin2 2in1;coin4 4in1' = 4",
            "gain 0 1 = 2 | lot 0 1 = 1 | deal 0 1 = 2 | purse 0 0 = 6 | purse 1 0 = 9");
        Script.each("22 deal: the least GIVEN, not the fewest COINS", "'coin2 3;coin2 3;coin4 6;coin4 4in1' = 4",
            "gain 0 1 = 2 | lot 0 1 = 3 | lot 1 0 = 8");
    }

    private static void done() {
        Script.each("22 deal: that CHANGE is done", "'coin 5 9;coin 5 6 in 1' = 2", """
            deal 0 1 = 5 | purse 0 0 = 2 | purse 0 1 = 6 | purse 1 0 = 1 | purse 1 1 = 9 | count 3 = 2 | deal 0 1 = NONE
            deal 1 0 = 5 | purse 0 0 = 2 | purse 0 1 = 6 | purse 1 0 = 1 | purse 1 1 = 9 | count 3 = 2 | deal 1 0 = NONE
            """);
        Script.each("20 gain, 21 lot, 23 deals, 24 partner: nothing changes", "'coin 5 9;coin 5 6 in 1' = 2",
            "gain 0 1 = 5 | lot 0 1 = 1 | deals 0 1 = 1 | partner 0 = 1 | count 3 = 0 | purse 0 0 = 1 | count 6 = 1");
        Script.each("23 deals: none is no finding", "", "deals 0 1 = 0 | status -1 = 0");
    }

    /** Lands found by search, as deals() ends by itself after few of them in most. */
    private static void manyDeals() {
        String land = "'coin46 73;worn@w 80in1ship;twice84 55;coin6 77ship;coin85 25ship;worn22 51;coin50 54ship' = 7\n"
            + "'@3;worn79 4in1ship;coin82 92in1' = 3\n";
        String open = land.replace("@w", "99").replace("@3", "coin3 0in1");
        String twenty = land.replace("@w", "96").replace("@3", "coin3 0in1");
        deals("20 of 22", open, 20, 22);
        deals("20 of 20", twenty, 20, 20);
        String nineteen = "'coin46 76;worn89 83in1ship;twice84 68;coin8 85in1ship;coin98 25ship;worn19 46' = 6\n"
            + "'coin50 54ship;coin3 0ship;worn75 1in1ship;coin82 92in1' = 4\n";
        deals("19 of 19", nineteen, 19, 19);
        String eighteen = "'coin46 76;worn89 83in1ship;twice84 70;coin8 82in1ship;coin98 25ship;worn19 47' = 6\n"
            + "'coin50 54ship;coin3 0in1;worn79 1in1ship;coin82 92in1' = 4\n";
        deals("18 of 18", eighteen, 18, 18);
    }

    /** How many deals() tells of a land in which there are so many. */
    private static void deals(String sentence, String land, int told, int there) {
        Script.each("23 deals: 0 to 20: " + sentence, land, "deals 0 1 = " + told + " | count 3 = 0");
        TurningCoins coins = new TurningCoins();
        Script.tell(coins, land);
        int done = 0;
        while (done < 100 && coins.deal(0, 1) > 0) {
            done++;
        }
        Script.expect("23 deals: one behind the other: " + sentence, done, there);
        coins = new TurningCoins();
        Script.tell(coins, land);
        for (int left = there; left >= 0; left--) {
            Script.expect("23 deals: with " + left + " to go of " + sentence, coins.deals(0, 1), Math.min(20, left));
            coins.deal(0, 1);
        }
    }

    private static void partners() {
        Script.each("24 partner: PURSES 0 to 3", "'coin 5 9;coin 5 8 in 3' = 2", """
            partner -1 = BEYOND
            partner 0 = 3
            partner 3 = 0
            partner 4 = BEYOND
            partner 2147483647 = BEYOND
            partner -2147483648 = BEYOND
            """);
        Script.each("24 partner: NONE: with none there is any", "", """
            partner 0 = NONE
            'coin 5 9;coin 5 8 in 3' = 2 | partner 1 = NONE | partner 2 = NONE
            'coin 5 5;coin 5 5 in 1' = 2 | partner 0 = NONE
            """);
        Script.each("24 partner: a gain of 1 is enough", "'coin 5 6;coin 5 5 in 2' = 2", "partner 0 = 2 | partner 2 = 0");
        Script.each("24 partner: the greatest gain", "'coin5 6;coin5 5in1;coin5 7in2;coin5 6in3' = 4",
            "partner 0 = 2 | partner 1 = 2 | partner 2 = 0 | partner 3 = 2");
        Script.each("24 partner: of like gains the least PURSE", "'coin5 6;coin5 6in1;coin5 6in2;coin5 6in3' = 4",
            "partner 0 = 1 | partner 1 = 0 | partner 2 = 0 | partner 3 = 0");
        Script.each("24 partner: one worth 0 comes from any, goes to any", "'coin 0 3 in 3' = 1",
            "partner 0 = 3 | partner 1 = 3 | partner 2 = 3 | partner 3 = 0");
    }

    private static void rounds() {
        String two = "'coin 5 9;coin 5 9 in 3' = 2\n";
        Script.each("25 round: coins that are not there", "", "round 0 1 = BEYOND | round -1 1 = BEYOND");
        Script.each("25 round: coins and PURSES", two, """
            round -1 1 = BEYOND
            round 0 1 = 1
            round 1 1 = 1
            round 2 1 = BEYOND
            round 0 -1 = BEYOND
            round 0 3 = 1
            round 0 4 = BEYOND
            round 1 0 = 1
            round 2147483647 1 = BEYOND
            round 0 -2147483648 = BEYOND
            """);
        Script.each("25 round: BEYOND: also its own", two, """
            round 0 0 = BEYOND
            round 1 3 = BEYOND
            round 0 0 = BEYOND | change 0 1 2 = 0 | round 0 2 = BEYOND | round 0 0 = 1
            """);
        Script.each("25 round: all ten", Script.items(10, "coin5 6"), "round 9 1 = 1 | round 10 1 = BEYOND");
        Script.each("25 round: more than now: by 1, as much, 1 less", "", """
            'coin 5 6' = 1 | round 0 1 = 1
            'coin 5 5' = 1 | round 0 1 = NONE
            'coin 5 4' = 1 | round 0 1 = NONE
            'worn 5 7' = 1 | round 0 1 = 1
            'worn 5 6' = 1 | round 0 1 = NONE
            'worn 5 5' = 1 | round 0 1 = NONE
            'edged 5 9' = 1 | round 0 1 = NONE
            'forged 5 9' = 1 | round 0 1 = NONE
            'twice 5 9' = 1 | round 0 1 = NONE
            'heavy 5 6' = 1 | round 0 1 = 1
            """);
        Script.each("25 round: a FOREIGN one comes home or leaves it", "", """
            'foreign 8 6' = 1 | round 0 3 = 1     # 4, then 6 - 1
            'foreign 8 5' = 1 | round 0 3 = NONE  # 4, then 5 - 1
            'foreign 8 6' = 1 | round 0 1 = NONE
            'foreign 8 11' = 1 | round 0 1 = 1    # (11 - 1) / 2
            'foreign 8 10' = 1 | round 0 1 = NONE
            'foreign 4 11 in 3' = 1 | round 0 0 = 1
            'foreign 4 10 in 3' = 1 | round 0 0 = NONE
            """);
        Script.each("25 round: nothing changes", two, "round 0 1 = 1 | count 3 = 0 | purse 0 0 = 1 | count 4 = 3");
    }
}
