/** The boundaries that the promises 8 to 19 name, each sentence by itself. */
public final class PaymentsBoundariesTest {
    /** One coin in purse 0, one in purse 3. */
    private static final String TWO = "'coin 9 5;coin 9 5 in 3' = 2\n";
    private static final String TEN = Script.items(10, "coin9 5");
    /** Nine of 100 and one of 99. */
    private static final String TO_999 =
        "'" + "heavy99 0;".repeat(9) + "coin99 0' = 10\n";
    /** Every sum from 0 to 425. */
    private static final String TO_425 =
        "'coin1 0;coin2 0;coin4 0;coin8 0;coin16 0;coin32 0;coin64 0;coin99 0;coin99 0;heavy99 0' = 10\n";

    public static void main(String[] args) {
        pay();
        there();
        sets();
        sums();
        purses();
        prices();
        none();
        costs();
        ties();
        bought();
        fewest();
        dearth();
        Script.end();
    }

    private static void pay() {
        Script.each("8 pay: PURSES 0 to 3", TWO, """
            pay -1 0 0 = BEYOND
            pay 0 3 1 = 9 | purse 3 0 = 3
            pay 3 0 2 = 9 | purse 0 0 = 3
            pay 4 0 0 = BEYOND
            pay 0 -1 1 = BEYOND
            pay 0 4 1 = BEYOND
            pay 2147483647 0 0 = BEYOND
            pay 0 -2147483648 0 = BEYOND
            """);
        Script.each("8 pay: BEYOND: also one and the same", TWO,
            "pay 0 0 1 = BEYOND | pay 3 3 2 = BEYOND | pay 1 1 0 = BEYOND");
        Script.each("8 pay: BEYOND: bits of no COIN", TWO, """
            pay 0 3 4 = BEYOND
            pay 0 3 5 = BEYOND
            pay 0 3 -1 = BEYOND
            pay 0 3 -2147483648 = BEYOND
            pay 0 3 2147483647 = BEYOND
            """);
        Script.each("8 pay: there are no coins", "", "pay 0 1 0 = 0 | pay 0 1 1 = BEYOND | pay 0 1 512 = BEYOND");
        Script.each("8 pay: STATE: one isn't in that PURSE", TWO, """
            pay 0 3 2 = STATE
            pay 0 3 3 = STATE
            pay 3 0 3 = STATE
            pay 1 0 1 = STATE
            pay 0 1 2 = STATE
            """);
        Script.each("8 pay: BEYOND ahead of STATE", TWO, """
            pay 0 0 2 = BEYOND
            pay 0 4 2 = BEYOND
            pay 0 3 6 = BEYOND
            """);
        Script.each("8 pay: an empty set", TWO, "pay 0 3 0 = 0 | count 3 = 0 | pay 1 2 0 = 0");
        Script.each("8 pay: all ten", TEN, """
            pay 0 3 1023 = 90 | purse 3 0 = 1023 | purse 3 1 = 50 | count 3 = 10
            pay 0 3 1024 = BEYOND
            pay 0 3 512 = 9 | purse 3 0 = 512
            """);
        Script.each("8 pay: the SUM ahead of that", "'foreign 9 9;worn 9 7' = 2",
            "pay 0 3 3 = 13 | purse 3 1 = 14 | pay 3 2 3 = 14 | purse 2 1 = 10");
    }

    private static void there() {
        Script.each("9 there: PURSES 0 to 3, not one and the same", "'worn 9 5;worn 9 5 in 3' = 2", """
            there -1 0 = BEYOND
            there 0 3 = -2 | of 0 1 = 0 | of 0 5 = 2 | of 1 5 = 0
            there 3 0 = -2 | of 1 1 = 3 | of 1 5 = 2 | of 0 5 = 0
            there 4 0 = BEYOND
            there 0 -1 = BEYOND
            there 0 4 = BEYOND
            there 0 0 = BEYOND
            there 3 3 = BEYOND
            there 1 1 = BEYOND
            there -2147483648 2147483647 = BEYOND
            """);
        Script.each("9 there: an empty PURSE", TWO, "there 1 0 = 0 | count 3 = 0");
        Script.each("9 there: by how much its SUM is more", "", """
            'coin 9 5' = 1 | there 0 1 = 0 | of 0 5 = 2 | of 0 4 = 0
            'edged 9 5' = 1 | there 0 1 = 0 | of 0 5 = 0
            'twice 9 5' = 1 | there 0 1 = 0 | of 0 5 = 4
            'worn 0 9' = 1 | there 0 1 = 0
            'worn 1 9' = 1 | there 0 1 = -1
            'worn 2 9' = 1 | there 0 1 = -2
            'worn 2 9' = 1 | there 0 1 = -2 | there 0 1 = 0
            'foreign 9 9' = 1 | there 0 3 = -1    # (9 - 2) / 2 for 9 / 2
            'foreign 9 9 in 3' = 1 | there 3 0 = -2
            """);
        Script.each("9 there: all ten", Script.items(10, "worn99 99"), "there 0 1 = -20 | purse 0 0 = 1023");
    }

    private static void sets() {
        Script.each("10 can, 11 with: v 0 to 999", TO_999, """
            can 0 -1 = BEYOND
            can 0 0 = 1
            can 0 1 = 0
            can 0 998 = 0
            can 0 999 = 1
            can 0 1000 = BEYOND
            can 0 2147483647 = BEYOND
            can 0 -2147483648 = BEYOND
            with 0 -1 = BEYOND
            with 0 0 = 0
            with 0 1 = NONE
            with 0 998 = NONE
            with 0 999 = 1023
            with 0 1000 = BEYOND
            with 0 2147483647 = BEYOND
            with 0 -2147483648 = BEYOND
            """);
        Script.each("10 can, 11 with: an empty PURSE", TWO, """
            can 1 0 = 1
            can 1 1 = 0
            can 1 9 = 0
            can 1 999 = 0
            with 1 0 = 0
            with 1 1 = NONE
            with 1 9 = NONE
            """);
        Script.each("10 can: sums around 64 and 128", "", """
            'coin 63 0;coin 1 0' = 2 | can 0 62 = 0 | can 0 63 = 1 | can 0 64 = 1 | can 0 65 = 0
            'coin 50 0;coin 50 0' = 2 | can 0 36 = 0 | can 0 50 = 1 | can 0 64 = 0 | can 0 100 = 1
            'coin 64 0;coin 64 0' = 2 | can 0 63 = 0 | can 0 64 = 1 | can 0 65 = 0 | can 0 128 = 1 | can 0 192 = 0
            'coin 65 0;coin 63 0' = 2 | can 0 64 = 0 | can 0 65 = 1 | can 0 127 = 0 | can 0 128 = 1 | can 0 129 = 0
            'coin 99 0;coin 99 0;coin 58 0' = 3 | can 0 255 = 0 | can 0 256 = 1 | can 0 257 = 0
            """);
        Script.each("11 with: the least such set", "'coin 0 1;coin 9 0;coin 5 0;coin 4 0;coin 9 0' = 5", """
            with 0 0 = 0       # not the coin worth 0
            with 0 9 = 2       # not 3, 12, 13, 16
            with 0 18 = 14     # not 18
            with 0 27 = 30
            """);
        Script.each("11 with: a set without coins that are elsewhere", "'coin 9 0 in 1;coin 9 0' = 2",
            "with 0 9 = 2 | with 1 9 = 1 | with 0 18 = NONE");
    }

    private static void sums() {
        Script.each("12 sums: how many unlike ones, that of none, 0, too", "", """
            sums 0 = 1
            'coin 0 5' = 1 | sums 0 = 1
            'coin 1 5' = 1 | sums 0 = 2
            'coin 5 0;coin 5 0' = 2 | sums 0 = 3
            'coin 5 0;coin 6 0' = 2 | sums 0 = 4
            'coin 5 0;coin 6 0 in 1' = 2 | sums 0 = 2 | sums 1 = 2 | sums 2 = 1
            """);
        Script.each("12 sums: of all ten", "", Script.items(10, "coin9 0").trim() + " | sums 0 = 11\n"
            + TO_999.trim() + " | sums 0 = 20\n" + TO_425.trim() + " | sums 0 = 426\n");
        Script.each("13 cannot: the least number above 0", "", """
            cannot 0 = 1
            'coin 0 5' = 1 | cannot 0 = 1
            'coin 1 5' = 1 | cannot 0 = 2
            'coin 2 5' = 1 | cannot 0 = 1
            'coin 1 5;coin 1 5' = 2 | cannot 0 = 3
            'coin 1 5;coin 3 5' = 2 | cannot 0 = 2
            'coin 1 5;coin 1 5 in 1' = 2 | cannot 0 = 2
            """);
        Script.each("13 cannot: of all ten", "", TO_425.trim() + " | cannot 0 = 426\n" + TO_999.trim()
            + " | cannot 0 = 1\n" + Script.items(10, "coin1 0").trim() + " | cannot 0 = 11\n");
    }

    private static void purses() {
        for (String name : new String[] {"can", "with"}) {
            String due = name.equals("can") ? "1 1" : "1 2";
            Script.each("10 can, 11 with: PURSES 0 to 3", TWO, """
                can -1 9 = BEYOND
                can 0 9 = @0
                can 3 9 = @3
                can 4 9 = BEYOND
                can -2147483648 9 = BEYOND
                """.replace("can", name).replace("@0", due.split(" ")[0]).replace("@3", due.split(" ")[1]));
        }
        Script.each("12 sums, 13 cannot: PURSES 0 to 3", "'coin 1 5;coin 1 5 in 3;coin 1 5 in 3' = 3", """
            sums -1 = BEYOND
            sums 0 = 2
            sums 3 = 3
            sums 4 = BEYOND
            sums 2147483647 = BEYOND
            cannot -1 = BEYOND
            cannot 0 = 2
            cannot 3 = 3
            cannot 4 = BEYOND
            cannot 2147483647 = BEYOND
            """);
        buys("PURSES 0 to 3", TWO, "-1 0 9", "BEYOND BEYOND BEYOND BEYOND BEYOND");
        buys("PURSES 0 to 3", TWO, "0 3 9", "9 1 0 9 1");
        buys("PURSES 0 to 3", TWO, "3 0 9", "9 2 0 9 1");
        buys("PURSES 0 to 3", TWO, "4 0 9", "BEYOND BEYOND BEYOND BEYOND BEYOND");
        buys("PURSES 0 to 3", TWO, "0 -1 9", "BEYOND BEYOND BEYOND BEYOND BEYOND");
        buys("PURSES 0 to 3", TWO, "0 4 9", "BEYOND BEYOND BEYOND BEYOND BEYOND");
        buys("PURSES 0 to 3", TWO, "2147483647 -2147483648 9", "BEYOND BEYOND BEYOND BEYOND BEYOND");
        buys("also one and the same", TWO, "0 0 9", "BEYOND BEYOND BEYOND BEYOND BEYOND");
        buys("also one and the same", TWO, "3 3 0", "BEYOND BEYOND BEYOND BEYOND BEYOND");
        buys("also one and the same", TWO, "1 1 1", "BEYOND BEYOND BEYOND BEYOND BEYOND");
    }

    /** The answers of cost, given, back, buy and fewest to the same arguments, each on a land of its own. */
    private static void buys(String sentence, String land, String arguments, String answers) {
        String[] names = {"cost", "given", "back", "buy", "fewest"};
        String[] dues = answers.split(" ");
        for (int i = 0; i < names.length; i++) {
            Script.each((14 + i) + " " + names[i] + ": " + sentence, land,
                names[i] + " " + arguments + " = " + dues[i]);
        }
    }

    private static void prices() {
        buys("v 0 to 999", TO_999, "0 1 -1", "BEYOND BEYOND BEYOND BEYOND BEYOND");
        buys("v 0 to 999", TO_999, "0 1 0", "0 0 0 0 0");
        buys("v 0 to 999", TO_999, "0 1 1", "NONE NONE NONE NONE NONE");
        buys("v 0 to 999", TO_999, "0 1 998", "NONE NONE NONE NONE NONE");
        buys("v 0 to 999", TO_999.replace("coin99 0", "coin99 9"), "0 1 999", "999 1023 0 999 10");
        buys("v 0 to 999", TO_999, "0 1 1000", "BEYOND BEYOND BEYOND BEYOND BEYOND");
        buys("v 0 to 999", TO_999, "0 1 2147483647", "BEYOND BEYOND BEYOND BEYOND BEYOND");
        buys("v 0 to 999", TO_999, "0 1 -2147483648", "BEYOND BEYOND BEYOND BEYOND BEYOND");
        buys("v 0 to 999, also with empty purses", "", "0 1 1000", "BEYOND BEYOND BEYOND BEYOND BEYOND");
    }

    private static void none() {
        buys("NONE: there is no PAYMENT", TWO, "0 3 8", "NONE NONE NONE NONE NONE");
        buys("NONE: there is no PAYMENT", TWO, "0 3 10", "NONE NONE NONE NONE NONE");
        buys("NONE: there is no PAYMENT", TWO, "0 3 18", "NONE NONE NONE NONE NONE");
        buys("NONE: an empty PURSE can only pay 0", TWO, "1 0 9", "NONE NONE NONE NONE NONE");
        buys("NONE: an empty PURSE can only pay 0", TWO, "1 0 1", "NONE NONE NONE NONE NONE");
        buys("an empty PURSE pays 0", TWO, "1 0 0", "0 0 0 0 0");
        buys("both are empty", "", "0 1 0", "0 0 0 0 0");
        buys("both are empty", "", "0 1 1", "NONE NONE NONE NONE NONE");
        buys("both are empty", "", "0 1 999", "NONE NONE NONE NONE NONE");
        buys("to an empty PURSE", TWO, "0 1 9", "9 1 0 9 1");
        buys("all ten, those of purse 1 as change",
            "'" + "heavy99 9;".repeat(5) + "heavy99 9in1;".repeat(4) + "coin99 9in1' = 10\n", "0 1 1", "91 1 512 91 2");
    }

    private static void costs() {
        buys("COST: what comes back is worth what it is then", "'coin 9 0;coin 4 6 in 1' = 2", "0 1 5", "3 1 2 3 2");
        buys("COST 0", "'coin 9 0;coin 4 9 in 1' = 2", "0 1 5", "0 1 2 0 2");
        buys("COST below 0", "'coin 9 0;coin 4 10 in 1' = 2", "0 1 5", "-1 1 2 -1 2");
        buys("COST below 0: nothing given for coins worth 0", "'coin 0 5 in 1' = 1", "0 1 0", "-5 0 1 -5 0");
        buys("COST: a coin worth 0 that stays worth 0 needn't go", "'coin 0 0 in 1;coin 0 0' = 2", "0 1 0", "0 0 0 0 0");
        buys("COST: one given that is worth 0 costs nothing and so stays", "'coin 0 5' = 1", "0 1 0", "0 0 0 0 0");
        buys("COST: the most", "'" + "coin99 0;".repeat(9) + "coin99 0' = 10\n", "0 1 990", "990 1023 0 990 10");
        buys("COST: the least", "'" + "coin0 99in1;".repeat(9) + "coin0 9in1' = 10\n", "0 1 0", "-900 0 1023 -900 0");
        buys("COST: SUMS as all lie ahead of it", "'coin 5 9;coin 9 5 in 1' = 2", "0 1 5", "5 1 0 5 1");
    }

    private static void ties() {
        buys("as little COST: fewest COINS, both sets", "'coin9 0;coin2 0;coin3 0;coin2 2in1;coin2 2in1' = 5",
            "0 1 5", "5 6 0 5 2");
        buys("as little COST: fewest COINS ahead of the least GIVEN", "'coin2 0;coin3 0;coin5 0' = 3",
            "0 1 5", "5 4 0 5 1");
        buys("less COST ahead of fewest COINS", "'coin5 0;coin9 0;coin2 3in1;coin2 3in1' = 4",
            "0 1 5", "3 2 12 3 1");
        buys("as many COINS: the least GIVEN", "'coin5 0;coin5 0' = 2", "0 1 5", "5 1 0 5 1");
        buys("as many COINS: the least GIVEN ahead of the least BACK",
            "'coin5 5in1;coin4 4in1;coin9 0;coin10 0' = 4", "0 1 5", "5 4 2 5 2");
        buys("the same GIVEN: the least BACK", "'coin9 0;coin4 4in1;coin4 4in1' = 3", "0 1 5", "5 1 2 5 2");
        buys("of all ten", Script.items(10, "coin9 0"), "0 1 45", "45 31 0 45 5");
    }

    private static void bought() {
        Script.each("17 buy: that PAYMENT is done", "'coin 9 0;coin 4 6 in 1;coin 9 1' = 3", """
            buy 0 1 5 = 3 | purse 0 0 = 6 | purse 0 1 = 15 | purse 1 0 = 1 | purse 1 1 = 0 | count 3 = 2
            buy 0 1 5 = 3 | buy 0 1 5 = NONE
            buy 0 1 0 = 0 | count 3 = 0
            """);
        Script.each("17 buy: all ten go", TEN, "buy 0 3 90 = 90 | purse 3 1 = 50 | buy 3 0 50 = 50 | purse 0 1 = 90");
    }

    private static void fewest() {
        Script.each("18 fewest: of any PAYMENT, whatever it costs", "'coin5 0;coin9 0;coin4 9in1' = 3",
            "cost 0 1 5 = 0 | fewest 0 1 5 = 1");
        Script.each("18 fewest: 0 to 10", Script.items(10, "coin1 0"), """
            fewest 0 1 0 = 0
            fewest 0 1 1 = 1
            fewest 0 1 9 = 9
            fewest 0 1 10 = 10
            fewest 0 1 11 = NONE
            """);
        Script.each("18 fewest: both sets count", "'coin9 0;coin8 0;coin8 0in1;coin8 0in1' = 4",
            "fewest 0 1 1 = 2 | fewest 1 0 8 = 1 | fewest 1 0 7 = 3 | fewest 0 1 2 = NONE");
    }

    private static void dearth() {
        Script.each("19 dearth: the least v, 1 at least", "", """
            dearth 0 1 = 1
            'coin 0 5' = 1 | dearth 0 1 = 1
            'coin 1 5' = 1 | dearth 0 1 = 2
            'coin 2 5' = 1 | dearth 0 1 = 1
            'coin 2 5;coin 1 5 in 1' = 2 | dearth 0 1 = 3 | dearth 1 0 = 2 | dearth 0 2 = 1 | dearth 1 2 = 2
            'coin 9 5 in 1' = 1 | dearth 0 1 = 1
            """);
        Script.each("19 dearth: of all ten", TO_425, "dearth 0 1 = 426 | cost 0 1 425 = 425 | cost 0 1 426 = NONE");
        Script.each("19 dearth: with change above 64", "'coin65 0;coin66 0;coin67 0;coin64 0in1' = 4",
            "dearth 0 1 = 4 | dearth 1 0 = 1");
        Script.each("19 dearth: PURSES 0 to 3, not one and the same", "'coin 1 5;coin 1 5 in 3' = 2", """
            dearth -1 0 = BEYOND
            dearth 0 3 = 2
            dearth 3 0 = 2
            dearth 4 0 = BEYOND
            dearth 0 -1 = BEYOND
            dearth 0 4 = BEYOND
            dearth 0 0 = BEYOND
            dearth 3 3 = BEYOND
            dearth 1 1 = BEYOND
            dearth -2147483648 2147483647 = BEYOND
            """);
    }
}
