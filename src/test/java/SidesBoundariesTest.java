/** The boundaries that the promises 26 to 30 name, each sentence by itself. */
public final class SidesBoundariesTest {
    /** With SHIP up they are worth 999 together; with KING up 9. */
    private static final String TO_999 = "'" + "heavy0 99;".repeat(9) + "coin0 99' = 10\n";
    private static final String TWO = "'coin 5 9;coin 5 8 in 3' = 2\n";

    public static void main(String[] args) {
        flip();
        highest();
        wrong();
        ways();
        kindFor();
        Script.end();
    }

    private static void flip() {
        Script.each("26 flip: v 0 to 999", TO_999, """
            flip 0 -1 = BEYOND
            flip 0 0 = 0
            flip 0 1 = 0
            flip 0 9 = 0
            flip 0 10 = NONE
            flip 0 998 = NONE
            flip 0 999 = 1023
            flip 0 1000 = BEYOND
            flip 0 2147483647 = BEYOND
            flip 0 -2147483648 = BEYOND
            """);
        Script.each("26 flip: PURSES 0 to 3", TWO, """
            flip -1 0 = BEYOND
            flip 0 9 = 1
            flip 3 8 = 2
            flip 4 0 = BEYOND
            flip 2147483647 0 = BEYOND
            flip -2147483648 0 = BEYOND
            """);
        Script.each("26 flip: an empty PURSE", TWO, "flip 1 0 = 0 | flip 1 1 = NONE | flip 1 5 = NONE | flip 1 999 = NONE");
        Script.each("26 flip: none need lie the other way", TWO, "flip 0 5 = 0 | flip 0 0 = 0");
        Script.each("26 flip: NONE", TWO, "flip 0 8 = NONE | flip 0 14 = NONE | flip 0 13 = NONE");
        Script.each("26 flip: the fewest COINS", "'coin1 2;coin1 2;coin0 4' = 3",
            "flip 0 4 = 4 | flip 0 2 = 0 | flip 0 3 = 1 | flip 0 6 = 4 | flip 0 7 = 5 | flip 0 8 = 7");
        Script.each("26 flip: of several the least", "'coin1 9in1;coin1 9;coin1 9;coin1 9' = 4",
            "flip 0 9 = 2 | flip 0 10 = 2 | flip 0 18 = 6 | flip 0 27 = 14");
        Script.each("26 flip: one is fewer than two, though the two come to less as a set", "'coin1 3;coin1 3;coin1 6' = 3",
            "flip 0 6 = 4 | flip 0 7 = 4 | flip 0 5 = 1 | flip 0 9 = 5");
        Script.each("26 flip: as they are, but LIES", "", """
            'worn 9 7' = 1 | flip 0 7 = 1 | flip 0 6 = NONE | flip 0 8 = NONE
            'worn 9 7' = 1 | turn 0 = 6 | flip 0 8 = 1 | flip 0 7 = NONE
            'edged 9 7' = 1 | flip 0 7 = 1
            'twice 9 7' = 1 | flip 0 8 = 1 | flip 0 10 = 0
            'forged 9 7' = 1 | flip 0 7 = NONE | flip 0 9 = 0
            'foreign 9 7' = 1 | flip 0 3 = 1 | flip 0 4 = 0 | flip 0 7 = NONE
            'foreign 9 7 in 3' = 1 | flip 3 7 = 1
            """);
        Script.each("26 flip: nothing changes", TO_999, "flip 0 999 = 1023 | count 4 = 1023 | count 3 = 0");
        Script.each("26 flip, 10 can, 13 cannot: a low sum sought ahead of a high one", TO_999,
            "flip 0 0 = 0 | sums 0 = 10 | cannot 0 = 10 | change 9 4 1 = 0 | can 0 108 = 1 | can 0 109 = 0");
    }

    private static void highest() {
        Script.each("27 highest: PURSES 0 to 3", TWO, """
            highest -1 = BEYOND
            highest 0 = 9
            highest 1 = 0
            highest 3 = 8
            highest 4 = BEYOND
            highest 2147483647 = BEYOND
            highest -2147483648 = BEYOND
            """);
        Script.each("27 highest: from 0 to 1000", "", "highest 0 = 0\n'coin 0 0' = 1 | highest 0 = 0\n"
            + Script.items(10, "heavy0 99").trim() + " | highest 0 = 1000\n" + TO_999.trim() + " | highest 0 = 999\n");
        Script.each("27 highest: however its COINS lay", "", """
            'coin 5 9' = 1 | highest 0 = 9
            'coin 9 5' = 1 | highest 0 = 9
            'coin 5 9 ship' = 1 | highest 0 = 9
            'forged 5 9' = 1 | highest 0 = 5
            'edged 5 9' = 1 | highest 0 = 9
            'worn 5 9' = 1 | turn 0 = 8 | turn 0 = 3 | highest 0 = 7
            'worn 1 2' = 1 | turn 0 = 1 | turn 0 = 0 | turn 0 = 0 | highest 0 = 0
            'foreign 5 9' = 1 | highest 0 = 4
            'foreign 5 9 in 3' = 1 | highest 3 = 9
            """);
    }

    private static void wrong() {
        Script.each("28 wrong: more the other way, as much, less", "", """
            wrong = 0
            'coin 5 6' = 1 | wrong = 1
            'coin 5 5' = 1 | wrong = 0
            'coin 5 4' = 1 | wrong = 0
            'coin 5 4 ship' = 1 | wrong = 1
            'coin 5 5 ship' = 1 | wrong = 0
            'coin 5 6 ship' = 1 | wrong = 0
            'forged 5 9' = 1 | wrong = 0
            'forged 9 5 ship' = 1 | wrong = 0
            'edged 5 9' = 1 | wrong = 1
            'twice 5 9' = 1 | wrong = 1
            'foreign 4 5' = 1 | wrong = 0
            'foreign 5 6' = 1 | wrong = 1
            'foreign 4 5 in 3' = 1 | wrong = 1
            'worn 0 1' = 1 | turn 0 = 0 | wrong = 0
            """);
        Script.each("28 wrong: of all PURSES, of all ten", TO_999,
            "wrong = 1023 | change 0 1 3 = 0 | change 9 1 1 = 0 | wrong = 1023 | change 9 4 1 = 0 | wrong = 511");
    }

    private static void ways() {
        Script.each("29 ways: v 0 to 9999", TWO, """
            ways 0 -1 = BEYOND
            ways 0 0 = 2
            ways 0 1 = 2
            ways 0 9998 = 0
            ways 0 9999 = 0
            ways 0 10000 = BEYOND
            ways 0 2147483647 = BEYOND
            ways 0 -2147483648 = BEYOND
            """);
        Script.each("29 ways: PURSES 0 to 3", TWO, """
            ways -1 0 = BEYOND
            ways 0 9 = 1
            ways 3 8 = 1
            ways 4 0 = BEYOND
            ways 2147483647 0 = BEYOND
            ways -2147483648 0 = BEYOND
            """);
        Script.each("29 ways: v or more", TWO, "ways 0 5 = 2 | ways 0 6 = 1 | ways 0 9 = 1 | ways 0 10 = 0");
        Script.each("29 ways: of no COINS there is one, with a SUM of 0", TWO, "ways 1 0 = 1 | ways 1 1 = 0");
        Script.each("29 ways: of all ten", TO_999, """
            ways 0 0 = 1024
            ways 0 9 = 1024
            ways 0 10 = 1023
            ways 0 999 = 1
            ways 0 1000 = 0
            """);
        Script.each("29 ways: also those worth alike", "'forged 5 9;coin 5 5' = 2", "ways 0 10 = 4 | ways 0 11 = 0");
        Script.each("29 ways: from any way they lie", "'coin 5 9 ship;coin 5 8 ship' = 2",
            "ways 0 10 = 4 | ways 0 11 = 3 | ways 0 13 = 3 | ways 0 14 = 2 | ways 0 15 = 1 | ways 0 17 = 1 | ways 0 18 = 0");
    }

    private static void kindFor() {
        Script.each("30 kindFor: coins that are not there", "", "kindFor 0 = BEYOND | kindFor -1 = BEYOND");
        Script.each("30 kindFor: all ten", Script.items(10, "coin9 5"), """
            kindFor -1 = BEYOND
            kindFor 0 = 1
            kindFor 9 = 1
            kindFor 10 = BEYOND
            kindFor 2147483647 = BEYOND
            kindFor -2147483648 = BEYOND
            """);
        Script.each("30 kindFor: of several KINDS the least number", "", """
            'coin 5 9' = 1 | kindFor 0 = 1          # as much as TWICE
            'twice 5 9' = 1 | kindFor 0 = 1
            'foreign 0 0' = 1 | kindFor 0 = 1
            'coin 5 5 ship' = 1 | kindFor 0 = 1
            'coin 6 5 ship' = 1 | kindFor 0 = 1     # HEAVY 6, FORGED 6
            'coin 7 5 ship' = 1 | kindFor 0 = 3     # HEAVY 6, FORGED 7
            'forged 7 5 ship' = 1 | kindFor 0 = 3
            'heavy 99 98 ship' = 1 | kindFor 0 = 1
            'heavy 99 97 ship' = 1 | kindFor 0 = 3
            """);
        Script.each("30 kindFor: nothing changes", "'foreign 9 5' = 1", "kindFor 0 = 1 | of 0 0 = 6");
    }
}
