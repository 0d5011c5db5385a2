/** The boundaries that the first terms and the promises 1 to 7 name, each sentence by itself. */
public final class CoinsBoundariesTest {
    private static final String LEAST = "-2147483648";
    private static final String MOST = "2147483647";
    private static final String ONE = "'coin 9 5' = 1\n";
    private static final String NINE = Script.items(9, "coin9 5");
    private static final String TEN = Script.items(10, "coin9 5");

    public static void main(String[] args) {
        findings();
        asAtFirst();
        made();
        told();
        changed();
        worths();
        turns();
        purses();
        sums();
        Script.end();
    }

    private static void findings() {
        Script.each("findings: each is counted by its number (Script knows what number each name stands for)", "", """
            of 0 0 = BEYOND | status 0 = 1 | status -1 = 1
            with 0 1 = NONE | status 3 = 1 | status -1 = 1
            market 1 = STATE | status 4 = 1 | status -1 = 1
            load 0 = MISSING | status 5 = 1 | status -1 = 1
            sheet 0 8 -1 = SIZE | status 6 = 1 | status -1 = 1
            """);
        Script.each("findings: FULL, KIND", TEN + "hold 0 0 = 1", """
            coin 0 0 0 = FULL | status 1 = 1 | status -1 = 1
            as 0 1 = KIND | status 2 = 1 | status -1 = 1
            """);
        Script.each("what seed() and count(6) tell may be any int: no finding", "", """
            seed -1000000 = 1 | seed 0 = -1000000 | status -1 = 0
            seed -1000001 = 1 | count 6 = -1000001 | seed 0 = -1000001 | status -1 = 0
            seed -1000002 = 1 | count 6 = -1000002 | seed 0 = -1000002 | status -1 = 0
            seed -1000003 = 1 | count 6 = -1000003 | seed 0 = -1000003 | status -1 = 0
            seed -1000004 = 1 | count 6 = -1000004 | seed 0 = -1000004 | status -1 = 0
            seed -1000005 = 1 | count 6 = -1000005 | seed 0 = -1000005 | status -1 = 0
            seed -1000006 = 1 | count 6 = -1000006 | seed 0 = -1000006 | status -1 = 0
            seed -1000007 = 1 | count 6 = -1000007 | seed 0 = -1000007 | status -1 = 0
            seed -2147483648 = 1 | count 6 = -2147483648 | seed 0 = -2147483648 | status -1 = 0
            seed 2147483647 = 1 | count 6 = 2147483647 | seed 0 = 2147483647 | status -1 = 0
            """);
    }

    private static void asAtFirst() {
        Script.each("1 all as at first; no COINS; THE TAPE is empty, no image is kept", "", """
            count 0 = 0
            count 1 = 0
            count 2 = 0
            count 3 = 0
            count 4 = 0
            count 5 = 0
            count 6 = 1
            count 7 = 0
            of 0 0 = BEYOND
            sum 0 = 0
            sum 1 = BEYOND
            purse 0 0 = 0
            purse 1 0 = 0
            purse 2 0 = 0
            purse 3 0 = 0
            wipe = 0
            text = -1
            as 0 0 = MISSING
            as 1 0 = MISSING
            as 2 0 = MISSING
            as 3 0 = MISSING
            as 4 0 = MISSING
            as 5 0 = MISSING
            as 6 0 = MISSING
            as 7 0 = MISSING
            as 8 0 = MISSING
            as 9 0 = MISSING
            load 0 = MISSING
            load 1 = MISSING
            load 2 = MISSING
            load 3 = MISSING
            undo = NONE
            tear = 0
            status -1 = 0
            status 0 = 0
            status 6 = 0
            """);
    }

    private static void made() {
        Script.each("2 coin: KIND 0 to 6", "", """
            coin -1 9 5 = BEYOND
            coin 0 9 5 = 0 | of 0 0 = 0
            coin 1 9 5 = 0 | of 0 0 = 1
            coin 2 9 5 = 0 | of 0 0 = 2
            coin 3 9 5 = 0 | of 0 0 = 3
            coin 4 9 5 = 0 | of 0 0 = 4
            coin 5 9 5 = 0 | of 0 0 = 5
            coin 6 9 5 = 0 | of 0 0 = 6
            coin 7 9 5 = BEYOND
            coin -2147483648 9 5 = BEYOND
            coin 2147483647 9 5 = BEYOND
            """);
        Script.each("2 coin: KING 0 to 99", "", """
            coin 0 -1 5 = BEYOND
            coin 0 0 5 = 0 | of 0 2 = 0 | of 0 6 = 0
            coin 0 1 5 = 0 | of 0 2 = 1
            coin 0 98 5 = 0 | of 0 2 = 98
            coin 0 99 5 = 0 | of 0 2 = 99 | of 0 6 = 99
            coin 0 100 5 = BEYOND
            coin 0 -2147483648 5 = BEYOND
            coin 0 2147483647 5 = BEYOND
            """);
        Script.each("2 coin: SHIP 0 to 99", "", """
            coin 0 9 -1 = BEYOND
            coin 0 9 0 = 0 | of 0 3 = 0 | turn 0 = 0
            coin 0 9 1 = 0 | of 0 3 = 1
            coin 0 9 98 = 0 | of 0 3 = 98
            coin 0 9 99 = 0 | of 0 3 = 99 | turn 0 = 99
            coin 0 9 100 = BEYOND
            coin 0 9 -2147483648 = BEYOND
            coin 0 9 2147483647 = BEYOND
            """);
        Script.each("2 coin: in PURSE 0, KING up at first, TURNS 0 at first", "", """
            coin 6 9 5 = 0 | of 0 1 = 0
            coin 6 9 5 = 0 | of 0 4 = 0
            coin 6 9 5 = 0 | of 0 5 = 0
            """);
        Script.run("2 coin: COINS 0, 1, .. (at most 10)", """
            coin 0 9 5 = 0
            coin 0 9 5 = 1
            coin 0 9 5 = 2
            coin 0 9 5 = 3
            coin 0 9 5 = 4
            coin 0 9 5 = 5
            coin 0 9 5 = 6
            coin 0 9 5 = 7
            coin 0 9 5 = 8
            coin 0 9 5 = 9
            coin 0 9 5 = FULL
            coin 0 9 5 = FULL
            count 1 = 10
            """);
        Script.each("2 coin: the tenth comes", NINE, "coin 6 0 99 = 9 | count 1 = 10 | of 9 3 = 99");
        Script.each("2 coin: BEYOND ahead of FULL", TEN, """
            coin 7 9 5 = BEYOND
            coin -1 9 5 = BEYOND
            coin 0 100 5 = BEYOND
            coin 0 9 -1 = BEYOND
            coin 6 99 99 = FULL
            coin 0 0 0 = FULL
            """);
        Script.each("2 coin: full and not full by undo()", "image = 1\n" + TEN, """
            coin 0 9 5 = FULL | undo = 0 | coin 0 9 5 = 0 | coin 0 9 5 = 1
            image = 1 | undo = 0 | coin 0 9 5 = FULL
            """);
    }

    private static void told() {
        Script.each("3 of: coins that are not there", "", "of 0 0 = BEYOND | of -1 0 = BEYOND | of 9 6 = BEYOND");
        Script.each("3 of: the only coin", ONE, """
            of -1 2 = BEYOND
            of 0 2 = 9
            of 1 2 = BEYOND
            of 2147483647 2 = BEYOND
            of -2147483648 2 = BEYOND
            """);
        Script.each("3 of: ten coins", TEN, "of 0 2 = 9 | of 9 2 = 9 | of 10 2 = BEYOND | of 11 2 = BEYOND");
        Script.each("3 of: what 0 to 6", "'foreign 9 5 in 2 ship' = 1", """
            of 0 -1 = BEYOND
            of 0 0 = 6
            of 0 1 = 2
            of 0 2 = 9
            of 0 3 = 5
            of 0 4 = 1
            of 0 5 = 0
            of 0 6 = 2
            of 0 7 = BEYOND
            of 0 2147483647 = BEYOND
            of 0 -2147483648 = BEYOND
            """);
    }

    private static void changed() {
        Script.each("4 change: coins that are not there", "",
            "change 0 0 0 = BEYOND | change -1 0 0 = BEYOND | change 9 0 0 = BEYOND");
        Script.each("4 change: ten coins", TEN, """
            change -1 2 7 = BEYOND
            change 0 2 7 = 9 | sum 1 = 7 | sum 1022 = 81
            change 9 2 7 = 9 | sum 512 = 7 | sum 511 = 81
            change 10 2 7 = BEYOND
            change 2147483647 2 7 = BEYOND
            change -2147483648 2 7 = BEYOND
            """);
        Script.each("4 change: what 0 to 4", "'heavy 9 5 in 2 ship' = 1", """
            change 0 -1 1 = BEYOND
            change 0 0 0 = 1 | of 0 0 = 0
            change 0 1 0 = 2 | of 0 1 = 0
            change 0 2 0 = 9 | of 0 2 = 0
            change 0 3 0 = 5 | of 0 3 = 0
            change 0 4 0 = 1 | of 0 4 = 0
            change 0 5 0 = BEYOND
            change 0 6 0 = BEYOND
            change 0 2147483647 0 = BEYOND
            change 0 -2147483648 0 = BEYOND
            """);
        Script.each("4 change: KIND 0 to 6", ONE, """
            change 0 0 -1 = BEYOND
            change 0 0 0 = 0 | of 0 0 = 0
            change 0 0 6 = 0 | of 0 0 = 6
            change 0 0 7 = BEYOND
            """);
        Script.each("4 change: PURSE 0 to 3", ONE, """
            change 0 1 -1 = BEYOND
            change 0 1 0 = 0 | of 0 1 = 0
            change 0 1 3 = 0 | of 0 1 = 3 | purse 3 0 = 1 | purse 0 0 = 0
            change 0 1 4 = BEYOND
            """);
        Script.each("4 change: KING and SHIP 0 to 99", ONE, """
            change 0 2 -1 = BEYOND
            change 0 2 0 = 9 | of 0 2 = 0
            change 0 2 99 = 9 | of 0 2 = 99
            change 0 2 100 = BEYOND
            change 0 3 -1 = BEYOND
            change 0 3 0 = 5 | of 0 3 = 0
            change 0 3 99 = 5 | of 0 3 = 99
            change 0 3 100 = BEYOND
            """);
        Script.each("4 change: LIES 0 or 1", ONE, """
            change 0 4 -1 = BEYOND
            change 0 4 0 = 0 | of 0 4 = 0 | of 0 6 = 9
            change 0 4 1 = 0 | of 0 4 = 1 | of 0 6 = 5
            change 0 4 2 = BEYOND
            change 0 4 1 = 0 | change 0 4 0 = 1 | of 0 6 = 9
            """);
        Script.each("4 change: v far off", ONE, """
            change 0 0 2147483647 = BEYOND
            change 0 1 -2147483648 = BEYOND
            change 0 2 2147483647 = BEYOND
            change 0 3 -2147483648 = BEYOND
            change 0 4 2147483647 = BEYOND
            """);
        Script.each("4 change: another PURSE, but it doesn't TURN OVER", ONE,
            "change 0 1 3 = 0 | of 0 4 = 0 | of 0 5 = 0 | of 0 6 = 9");
        Script.each("4 change: another side, but TURNS stay", ONE, "change 0 4 1 = 0 | of 0 5 = 0");
    }

    private static void worths() {
        Script.each("worth: HEAVY and TWICE one above the face", "", """
            coin 1 0 9 = 0 | of 0 6 = 1
            coin 1 99 9 = 0 | of 0 6 = 100
            'heavy 9 0 ship' = 1 | of 0 6 = 1
            'heavy 9 99 ship' = 1 | of 0 6 = 100
            coin 4 0 9 = 0 | of 0 6 = 1
            coin 4 99 9 = 0 | of 0 6 = 100
            'twice 9 99 ship' = 1 | of 0 6 = 100
            """);
        Script.each("worth: EDGED as a COIN, FORGED by its KING however it lies", "", """
            'edged 9 5' = 1 | of 0 6 = 9
            'edged 9 5 ship' = 1 | of 0 6 = 5
            'forged 9 5' = 1 | of 0 6 = 9
            'forged 9 5 ship' = 1 | of 0 6 = 9
            'forged 0 99 ship' = 1 | of 0 6 = 0
            """);
        Script.each("worth: WORN less TURNS, 0 at least", "'worn 3 3' = 1", """
            of 0 6 = 3
            turn 0 = 2
            turn 0 = 2 | turn 0 = 1
            turn 0 = 2 | turn 0 = 1 | turn 0 = 0
            turn 0 = 2 | turn 0 = 1 | turn 0 = 0 | turn 0 = 0 | of 0 5 = 4
            turn 0 = 2 | turn 0 = 1 | turn 0 = 0 | turn 0 = 0 | change 0 2 5 = 3 | of 0 6 = 1
            """);
        Script.each("worth: FOREIGN at home less TURNS, 0 at least", "'foreign 2 2 in 3' = 1", """
            of 0 6 = 2
            turn 0 = 1
            turn 0 = 1 | turn 0 = 0
            turn 0 = 1 | turn 0 = 0 | turn 0 = 0 | of 0 5 = 3
            """);
        Script.each("worth: quotients are cut: half of a FOREIGN one", "", """
            coin 6 0 0 = 0 | of 0 6 = 0
            coin 6 1 0 = 0 | of 0 6 = 0
            coin 6 2 0 = 0 | of 0 6 = 1
            coin 6 3 0 = 0 | of 0 6 = 1
            coin 6 98 0 = 0 | of 0 6 = 49
            coin 6 99 0 = 0 | of 0 6 = 49
            coin 6 9 9 = 0 | turn 0 = 4    # half of 9 - 1
            coin 6 9 9 = 0 | turn 0 = 4 | turn 0 = 3
            coin 6 1 1 = 0 | turn 0 = 0 | turn 0 = 0
            """);
        Script.each("worth: half but in PURSE 3", "", """
            'foreign 9 5 in 0' = 1 | of 0 6 = 4
            'foreign 9 5 in 1' = 1 | of 0 6 = 4
            'foreign 9 5 in 2' = 1 | of 0 6 = 4
            'foreign 9 5 in 3' = 1 | of 0 6 = 9
            'worn 9 5 in 2' = 1 | of 0 6 = 9
            """);
    }

    private static void turns() {
        Script.each("5 turn: coins that are not there", "", "turn 0 = BEYOND | turn -1 = BEYOND | turn 9 = BEYOND");
        Script.each("5 turn: ten coins", TEN, """
            turn -1 = BEYOND
            turn 0 = 5 | purse 0 2 = 1
            turn 9 = 5 | purse 0 2 = 512
            turn 10 = BEYOND
            turn 2147483647 = BEYOND
            turn -2147483648 = BEYOND
            """);
        Script.each("5 turn: whether each KIND does", "", """
            'coin 9 5' = 1 | turn 0 = 5 | of 0 4 = 1 | of 0 5 = 1
            'coin 9 5 ship' = 1 | turn 0 = 9 | of 0 4 = 0 | of 0 5 = 1
            'heavy 9 5' = 1 | turn 0 = 6 | of 0 4 = 1 | of 0 5 = 1
            'heavy 9 5 ship' = 1 | turn 0 = 10 | of 0 4 = 0 | of 0 5 = 1
            'edged 9 5' = 1 | turn 0 = 9 | of 0 4 = 0 | of 0 5 = 0
            'edged 9 5 ship' = 1 | turn 0 = 5 | of 0 4 = 1 | of 0 5 = 0
            'forged 9 5' = 1 | turn 0 = 9 | of 0 4 = 0 | of 0 5 = 0
            'forged 9 5 ship' = 1 | turn 0 = 9 | of 0 4 = 1 | of 0 5 = 0
            'twice 9 5' = 1 | turn 0 = 10 | of 0 4 = 0 | of 0 5 = 2
            'twice 9 5 ship' = 1 | turn 0 = 6 | of 0 4 = 1 | of 0 5 = 2 | turn 0 = 6 | of 0 5 = 4
            'worn 9 5' = 1 | turn 0 = 4 | of 0 4 = 1 | of 0 5 = 1
            'worn 9 5 ship' = 1 | turn 0 = 8 | of 0 4 = 0 | of 0 5 = 1
            'foreign 9 5' = 1 | turn 0 = 2 | of 0 4 = 1 | of 0 5 = 1
            'foreign 9 5 ship' = 1 | turn 0 = 4 | of 0 4 = 0 | of 0 5 = 1
            """);
        Script.each("5 turn: where it is", "'foreign 9 7 in 3' = 1", "turn 0 = 6 | of 0 1 = 3");
    }

    private static void purses() {
        Script.each("6 purse: PURSES 0 to 3", "'coin 9 5;coin 7 6 in 3' = 2", """
            purse -1 0 = BEYOND
            purse 0 0 = 1
            purse 1 0 = 0
            purse 2 0 = 0
            purse 3 0 = 2
            purse 4 0 = BEYOND
            purse 2147483647 0 = BEYOND
            purse -2147483648 0 = BEYOND
            """);
        Script.each("6 purse: what 0 to 3", "'coin 9 5;coin 7 6 ship' = 2", """
            purse 0 -1 = BEYOND
            purse 0 0 = 3
            purse 0 1 = 15
            purse 0 2 = 2
            purse 0 3 = 12
            purse 0 4 = BEYOND
            purse 0 2147483647 = BEYOND
            purse 0 -2147483648 = BEYOND
            """);
        Script.each("6 purse: an empty one", ONE, "purse 1 0 = 0 | purse 1 1 = 0 | purse 1 2 = 0 | purse 1 3 = 0");
        Script.each("6 purse: of all ten", Script.items(10, "coin9 5ship"),
            "purse 0 0 = 1023 | purse 0 1 = 50 | purse 0 2 = 1023 | purse 0 3 = 90");
        Script.each("6 purse: the highest SUM", Script.items(10, "heavy99 0"), "purse 0 1 = 1000 | purse 0 3 = 10");
        Script.each("6 purse: only what would be, so nothing turns", "'worn 9 9;foreign 9 9 in 3' = 2",
            "purse 0 3 = 8 | purse 3 3 = 8 | count 3 = 0 | count 4 = 3");
        Script.each("6 purse: SHIP up in another PURSE doesn't count", "'coin 9 5;coin 9 5 in 1 ship' = 2",
            "purse 0 2 = 0 | purse 1 2 = 2");
    }

    private static void sums() {
        Script.each("7 sum: there are no coins", "", "sum 0 = 0 | sum 1 = BEYOND | sum 512 = BEYOND | sum -1 = BEYOND");
        Script.each("7 sum: bits of no COIN", "'coin 9 5;coin 7 6 in 3;heavy 0 0 in 1' = 3", """
            sum 0 = 0
            sum 1 = 9
            sum 4 = 1
            sum 7 = 17
            sum 8 = BEYOND
            sum 9 = BEYOND
            sum -1 = BEYOND
            sum -8 = BEYOND
            """ + "sum " + LEAST + " = BEYOND\nsum " + MOST + " = BEYOND\n");
        Script.each("7 sum: of all ten", Script.items(10, "heavy99 0"), """
            sum 512 = 100
            sum 1023 = 1000
            sum 1024 = BEYOND
            sum 1025 = BEYOND
            """);
    }
}
