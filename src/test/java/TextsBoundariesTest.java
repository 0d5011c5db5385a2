/** The boundaries that the term of texts and the promises 36 to 38 name, each sentence by itself. */
public final class TextsBoundariesTest {
    private static final String TEN = Script.items(10, "coin9 5");
    private static final String[] KINDS = {"coin", "heavy", "edged", "forged", "twice", "worn", "foreign"};

    public static void main(String[] args) {
        feed();
        bytes();
        wipe();
        items();
        tokens();
        everyByte();
        faces();
        pursesOfCoins();
        pays();
        wordsOutOfPlace();
        tooEarly();
        eleventh();
        nothingChanges();
        Script.end();
    }

    /** A tape of so many blanks. */
    private static String blanks(int n) {
        return n == 0 ? "" : "feed '" + " ".repeat(n) + "'\n";
    }

    private static void feed() {
        Script.each("36 feed: n 1 to 4", "", """
            feed 65 -2147483648 = BEYOND | count 5 = 0
            feed 65 -1 = BEYOND | count 5 = 0
            feed 65 0 = BEYOND | count 5 = 0
            feed 65 1 = 1 | count 5 = 1
            feed 65 2 = 2
            feed 65 3 = 3
            feed 65 4 = 4 | count 5 = 4
            feed 65 5 = BEYOND | count 5 = 0
            feed 65 2147483647 = BEYOND
            """);
        Script.each("36 feed: at most 120: FULL", blanks(115), "feed 32 4 = 119 | feed 32 1 = 120 | feed 32 1 = FULL");
        Script.each("36 feed: at most 120: FULL", blanks(116), "feed 32 4 = 120 | count 5 = 120 | feed 32 1 = FULL");
        Script.each("36 feed: at most 120: FULL", blanks(117), """
            feed 32 3 = 120
            feed 32 4 = FULL | count 5 = 117 | feed 32 3 = 120
            """);
        Script.each("36 feed: at most 120: FULL", blanks(118), """
            feed 32 2 = 120
            feed 32 3 = FULL | count 5 = 118
            feed 32 4 = FULL | count 5 = 118
            """);
        Script.each("36 feed: at most 120: FULL", blanks(119), """
            feed 32 1 = 120
            feed 32 2 = FULL | count 5 = 119
            feed 32 4 = FULL | count 5 = 119
            """);
        Script.each("36 feed: at most 120: FULL", blanks(120), """
            feed 32 1 = FULL | count 5 = 120
            feed 32 4 = FULL | count 5 = 120
            """);
        Script.each("36 feed: BEYOND ahead of FULL", blanks(120), """
            feed 32 0 = BEYOND
            feed 32 -1 = BEYOND
            feed 32 5 = BEYOND
            feed 32 2147483647 = BEYOND
            """);
        Script.each("36 feed: what came ahead of FULL stays", blanks(110) + "feed 'coin 5 5'\n",
            "feed 0x41414141 4 = FULL | text = 1 | feed 32 4 = 4");
    }

    private static void bytes() {
        Script.each("36 feed: the n lowest bytes, the highest of these first", "", """
            feed 'coin 1 ' | feed 0x32 1 = 8 | text = 1 | of 0 3 = 2
            feed 'coin 1 ' | feed 0x7f313132 1 = 8 | text = 1 | of 0 3 = 2
            feed 'coin 1 ' | feed -206 1 = 8 | text = 1 | of 0 3 = 2
            feed 'coin 1 ' | feed 0x3132 2 = 9 | text = 1 | of 0 3 = 12
            feed 'coin 1 ' | feed -52942 2 = 9 | text = 1 | of 0 3 = 12
            feed 'coin ' | feed 0x312032 3 = 8 | text = 1 | of 0 2 = 1 | of 0 3 = 2
            feed 'coin ' | feed -13557710 3 = 8 | text = 1 | of 0 2 = 1 | of 0 3 = 2
            feed 'coin' | feed 0x20312032 4 = 8 | text = 1 | of 0 2 = 1 | of 0 3 = 2
            feed 0 4 = 4 | text = -1
            feed -1 4 = 4 | text = -1
            feed -2147483648 4 = 4 | text = -1
            """);
    }

    private static void wipe() {
        Script.each("37 wipe: how many it had", "", "wipe = 0 | wipe = 0\nfeed 0 1 = 1 | wipe = 1 | count 5 = 0 | text = -1\n");
        Script.each("37 wipe: a full one", blanks(120), "wipe = 120 | count 5 = 0 | wipe = 0 | feed 32 4 = 4");
    }

    private static void items() {
        Script.each("38 text: how many ITEMS", "", """
            'coin 5 5' = 1 | count 1 = 1
            'coin 5 5;coin 5 5' = 2 | count 1 = 2
            """ + TEN.trim() + " | count 1 = 10\n");
        Script.each("38 text: the most ITEMS", "coin 0 9 5 = 0\n", "'" + "pay0to1;pay0to0;".repeat(7) + "pay0to1' = 15 | of 0 5 = 15\n"
            + "'" + "pay0to1;pay0to0;".repeat(7) + "pay 0to1' = 15 | of 0 5 = 15 | count 5 = 0\n"
            + "'" + "pay0to1;pay0to0;".repeat(7) + "pay0to0' = -119 | of 0 5 = 0\n");
        Script.each("38 text: THE TAPE is empty then", "", "'coin 5 5' = 1 | count 5 = 0 | text = -1\n'x' = -1 | count 5 = 0\n");
        Script.each("38 text: of 120 bytes", blanks(112), "'coin 5 5' = 1\n'coin 5 x' = -120\n'coin 5  ' = -121\n");
    }

    private static void tokens() {
        Script.each("38 text: blanks may stand between, each TOKEN as long as can be", "", """
            'coin5 7' = 1 | of 0 2 = 5 | of 0 3 = 7
            'coin5 7in3ship' = 1 | of 0 1 = 3 | of 0 4 = 1
            'coin   5   7   in   3   ship' = 1 | of 0 1 = 3 | of 0 4 = 1
            'coin57' = -7
            'coin5 7inship' = -8
            'coin5 7shipin3' = -8
            'coincoin' = -1
            'co in 5 7' = -1
            'coin5 7 sh ip' = -9
            'coin5 7;coin5 7' = 2
            'coin5 7 ; coin5 7' = 2
            'coin5 7;pay0to3' = 2 | of 0 1 = 3
            'coin5 7;pay 0 to 3' = 2 | of 0 1 = 3
            'coin5 7;pa y0to3' = -9
            'coin5 7;pay0to 3 ' = 2
            """);
        Script.each("38 text: another WORD", "", """
            'coi 5 5' = -1
            'coins 5 5' = -1
            'coin 5 5 shi' = -10
            'coin 5 5 ships' = -10
            'coin 5 5 i 3' = -10
            'coin 5 5 inn 3' = -10
            'coin 5 5;pa 0 to 1' = -10
            'coin 5 5;pays 0 to 1' = -10
            'coin 5 5;pay 0 t 1' = -16
            'coin 5 5;pay 0 too 1' = -16
            'zoin 5 5' = -1
            'coiz 5 5' = -1
            """);
    }

    /** Every byte once ahead of a text, once between two NUMBERS, once behind it. */
    private static void everyByte() {
        for (int b = 0; b < 256; b++) {
            boolean isLetter = b >= 97 && b <= 122;
            boolean isDigit = b >= 48 && b <= 57;
            String call = "feed " + b + " 1 = ";
            Script.each("38 text: byte " + b + " ahead of a text", "",
                call + "1 | feed 'coin 5 5' | text = " + (b == 32 ? 1 : -1));
            Script.each("38 text: byte " + b + " between NUMBERS", "",
                "feed 'coin 5' | " + call + "7 | feed '5' | text = " + (b == 32 ? 1 : isDigit ? -6 : -7));
            Script.each("38 text: byte " + b + " behind a text", "",
                "feed 'coin 5 5' | " + call + "9 | text = " + (b == 32 || isDigit ? 1 : b == 59 ? -10 : -9));
            Script.each("38 text: byte " + b + " behind the first WORD", "",
                "feed 'coin' | " + call + "5 | feed ' 5' | text = " + (isLetter ? -1 : isDigit ? 1 : b == 32 ? -8 : -5));
        }
    }

    private static void faces() {
        Script.each("38 text: KING 0 to 99", "", """
            'coin 0 5' = 1 | of 0 2 = 0
            'coin 99 5' = 1 | of 0 2 = 99
            'coin 100 5' = -6
            'coin 999 5' = -6
            'coin 1000 5' = -6
            'coin 4294967296 5' = -6
            'coin 18446744073709551621 5' = -6
            'coin 0099 5' = 1 | of 0 2 = 99
            'coin 00000000000000000000000005 5' = 1 | of 0 2 = 5
            'coin 00100 5' = -6
            """);
        Script.each("38 text: SHIP 0 to 99", "", """
            'coin 5 0' = 1 | of 0 3 = 0
            'coin 5 99' = 1 | of 0 3 = 99
            'coin 5 100' = -8
            'coin 5 999' = -8
            'coin 5 1000' = -8
            'coin 5 4294967296' = -8
            'coin 5 0099' = 1 | of 0 3 = 99
            """);
        for (int kind = 0; kind < KINDS.length; kind++) {
            Script.each("38 text: each KIND", "", "'" + KINDS[kind] + " 5 7' = 1 | of 0 0 = " + kind);
        }
    }

    private static void pursesOfCoins() {
        Script.each("38 text: in and a NUMBER 0 to 3, 0 without", "", """
            'coin 5 5' = 1 | of 0 1 = 0
            'coin 5 5 in 0' = 1 | of 0 1 = 0
            'coin 5 5 in 3' = 1 | of 0 1 = 3
            'coin 5 5 in 4' = -13
            'coin 5 5 in 99' = -13
            'coin 5 5 in 999' = -13
            'coin 5 5 in 1000' = -13
            'coin 5 5 in 003' = 1 | of 0 1 = 3
            'coin 5 5 in 004' = -13
            """);
        Script.each("38 text: perhaps ship", "", """
            'coin 5 5' = 1 | of 0 4 = 0
            'coin 5 5 ship' = 1 | of 0 4 = 1 | of 0 5 = 0
            'coin 5 5 in 3 ship' = 1 | of 0 4 = 1
            """);
    }

    private static void pays() {
        Script.each("38 text: pay: a COIN there by then", "", """
            'pay 0 to 1' = -5
            'pay 0 to 1;coin 5 5' = -5
            'coin 5 5;pay 0 to 1' = 2 | of 0 1 = 1 | of 0 5 = 1
            'coin 5 5;pay 1 to 1' = -14
            'coin 5 5;pay 1 to 1;coin 5 5' = -14
            'coin 5 5;coin 5 5;pay 1 to 1' = 3 | of 1 1 = 1
            'coin 5 5;pay 999 to 1' = -14
            'coin 5 5;pay 1000 to 1' = -14
            'coin 5 5;pay 4294967296 to 1' = -14
            'coin 5 5;pay 000 to 1' = 2 | of 0 1 = 1
            """);
        Script.each("38 text: pay: one of all ten", TEN,
            "'pay 9 to 1' = 1 | of 9 1 = 1\n'pay 10 to 1' = -5\n'pay 11 to 1' = -5\n'pay 0 to 1' = 1 | of 0 1 = 1\n");
        Script.each("38 text: pay: a PURSE, not its own", "'coin 5 5;coin 5 5 in 3' = 2", """
            'pay 0 to 0' = -10
            'pay 0 to 1' = 1 | of 0 1 = 1
            'pay 0 to 3' = 1 | of 0 1 = 3
            'pay 0 to 4' = -10
            'pay 0 to 999' = -10
            'pay 0 to 1000' = -10
            'pay 1 to 3' = -10
            'pay 1 to 03' = -10
            'pay 1 to 0' = 1 | of 1 1 = 0
            'pay 1 to 2' = 1 | of 1 1 = 2
            'pay 1 to 4' = -10
            'pay 0 to 1;pay 0 to 1' = -21
            'pay 0 to 1;pay 0 to 0' = 2 | of 0 1 = 0 | of 0 5 = 2
            """);
        Script.each("38 text: pay: it TURNS OVER", "'worn 5 5;edged 5 5;twice 5 5' = 3",
            "'pay 0 to 1;pay 1 to 1;pay 2 to 1' = 3 | of 0 6 = 4 | of 0 4 = 1 | of 1 5 = 0 | of 2 5 = 2 | of 2 4 = 0");
    }

    private static void wordsOutOfPlace() {
        Script.each("38 text: the first TOKEN that can't stand there", "", """
            ';' = -1
            '5' = -1
            'in' = -1
            'ship' = -1
            'to' = -1
            'coin coin' = -6
            'coin ;' = -6
            'coin in' = -6
            'coin ship' = -6
            'coin 5 ;' = -8
            'coin 5 ship' = -8
            'coin 5 in 3' = -8
            'coin 5 5 5' = -10
            'coin 5 5 coin' = -10
            'coin 5 5 to' = -10
            'coin 5 5 in ;' = -13
            'coin 5 5 in in' = -13
            'coin 5 5 in 3 in 3' = -15
            'coin 5 5 in 3 3' = -15
            'coin 5 5 ship in 3' = -15
            'coin 5 5 ship ship' = -15
            'coin 5 5;;coin 5 5' = -10
            'coin 5 5; ;coin 5 5' = -11
            'coin 5 5;5' = -10
            'coin 5 5;in 3' = -10
            'coin 5 5;ship' = -10
            'pay to' = -5
            'pay ;' = -5
            'coin 5 5;pay 0 1' = -16
            'coin 5 5;pay 0 ;' = -16
            'coin 5 5;pay 0 in 1' = -16
            'coin 5 5;pay 0 to to' = -19
            'coin 5 5;pay 0 to ;' = -19
            'coin 5 5;pay 0 to 1 1' = -21
            'coin 5 5;pay 0 to 1 to 0' = -21
            'coin 5 5;pay 0 to 1 in 0' = -21
            'coin 5 5;pay 0 to 1 ship' = -21
            """);
    }

    private static void tooEarly() {
        Script.each("38 text: how many bytes there are if it ends too early", "", """
            text = -1
            ' ' = -2
            '    ' = -5
            'coin' = -5
            'coin ' = -6
            'coin 5' = -7
            'coin 5 ' = -8
            'coin 5 5 in' = -12
            'coin 5 5 in ' = -13
            'coin 5 5;' = -10
            'coin 5 5; ' = -11
            'pay' = -4
            'coin 5 5;pay ' = -14
            'coin 5 5;pay 0' = -15
            'coin 5 5;pay 0 to' = -18
            'coin 5 5;pay 0 to ' = -19
            """);
        Script.each("38 text: a full tape that ends too early", blanks(119), "feed 32 1 = 120 | text = -121");
        Script.each("38 text: a full tape that ends too early", blanks(119), "feed 59 1 = 120 | text = -120");
        Script.each("38 text: a full tape that ends too early", blanks(116), "'coin' = -121");
    }

    private static void eleventh() {
        for (String kind : KINDS) {
            Script.each("38 text: the WORD of an 11th COIN: its own", TEN, "'" + kind + " 5 5' = -1\n' " + kind + "' = -2\n'"
                + kind + " 100' = -1\n'pay 0 to 1;" + kind + " 5 5' = -12 | of 0 1 = 0\n");
        }
        Script.each("38 text: the WORD of an 11th COIN: its own", Script.items(9, "coin9 5"), """
            'coin 5 5' = 1 | count 1 = 10
            'coin 5 5;coin 5 5' = -10 | count 1 = 9
            'coin 5 5;coin 100' = -10
            'coin 5 5;foreign' = -10
            'coin 5 5;pay 9 to 1' = 2 | of 9 1 = 1
            'coin 5 100;coin 5 5' = -8
            """);
        Script.each("38 text: eleven in one text", "",
            "'" + "coin5 5;".repeat(10) + "coin5 5' = -81 | count 1 = 0\n'" + "coin5 5;".repeat(10) + "' = -81\n");
    }

    private static void nothingChanges() {
        String land = "'coin 9 5;coin 7 6 in 3' = 2\nhold 0 0 = 1\n";
        Script.each("38 text: with a FAULT nothing changes but that THE TAPE is empty; no finding", land, """
            'pay 0 to 1;x' = -12 | of 0 1 = 0 | of 0 4 = 0 | of 0 5 = 0 | count 5 = 0 | status -1 = 0
            'coin 5 5;coin 5 5;x' = -19 | count 1 = 2 | status -1 = 0
            'coin 5 5;pay 2 to 1;pay 2 to 1' = -30 | count 1 = 2 | coin 6 3 2 = 2 | of 2 1 = 0 | of 2 5 = 0
            'coin 5 5 in 3 ship;' = -20 | coin 6 3 2 = 2 | of 2 1 = 0 | of 2 4 = 0
            """);
    }
}
