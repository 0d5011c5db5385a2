/** The boundaries that the promises 39 to 46 name, each sentence by itself. */
public final class SheetsBoundariesTest {
    private static final String ONE = "'coin 9 5' = 1\n";
    private static final String TEN = Script.items(10, "coin9 5");
    /** One of each KIND, by its number; and of each the KINDS as which it can be told. */
    private static final String KINDS = "'coin9 5;heavy9 5;edged9 5;forged9 5;twice9 5;worn9 5;foreign9 5' = 7\n";
    private static final String[] IS_A = {"0", "01", "02", "023", "014", "05", "056"};
    /** Coins that are worth the same however they lie, with sums of 1, 28, 57, 99, 127, 128, 255, 256. */
    private static final String SAME = "'coin99 99;coin99 99;coin57 57;coin1 1;coin28 28' = 5\n";

    public static void main(String[] args) {
        hold();
        as();
        sheet();
        write();
        lowestBits();
        copySheets();
        copyRows();
        copySelf();
        load();
        strike();
        judge();
        Script.end();
    }

    private static void hold() {
        Script.each("39 hold: SPOTS 0 to 9", ONE, """
            hold -1 0 = BEYOND
            hold 0 0 = 1 | as 0 0 = 0 | count 7 = 1
            hold 9 0 = 1 | as 9 0 = 0 | count 7 = 1
            hold 10 0 = BEYOND
            hold 2147483647 0 = BEYOND
            hold -2147483648 0 = BEYOND
            hold -1 -1 = BEYOND
            hold 10 -1 = BEYOND
            """);
        Script.each("39 hold: a COIN, or nothing (-1)", ONE + "hold 4 0 = 1\n", """
            hold 4 -2 = BEYOND | as 4 0 = 0
            hold 4 -1 = 1 | as 4 0 = MISSING | count 7 = 0
            hold 4 0 = 1 | as 4 0 = 0 | count 7 = 1
            hold 4 1 = BEYOND | as 4 0 = 0
            hold 4 2147483647 = BEYOND
            hold 4 -2147483648 = BEYOND
            """);
        Script.each("39 hold: there are no coins", "", "hold 0 0 = BEYOND | hold 0 -1 = 1 | hold 0 9 = BEYOND");
        Script.each("39 hold: all ten", TEN, "hold 0 9 = 1 | as 0 0 = 9 | hold 0 10 = BEYOND | as 0 0 = 9");
        Script.run("39 hold: all SPOTS", TEN + """
            hold 0 0 = 1
            hold 1 1 = 1
            hold 2 2 = 1
            hold 3 3 = 1
            hold 4 4 = 1
            hold 5 5 = 1
            hold 6 6 = 1
            hold 7 7 = 1
            hold 8 8 = 1
            count 7 = 9
            hold 9 8 = 1
            count 7 = 10
            as 8 0 = 8
            as 9 0 = 8
            as 0 0 = 0
            """);
    }

    private static void as() {
        for (int kind = 0; kind < IS_A.length; kind++) {
            for (int wanted = 0; wanted < IS_A.length; wanted++) {
                Script.each("40 as: of that KIND or of one under it", KINDS + "hold 2 " + kind + " = 1\n",
                    "as 2 " + wanted + " = " + (IS_A[kind].indexOf('0' + wanted) >= 0 ? kind : "KIND"));
            }
        }
        Script.each("40 as: kinds 0 to 6", "'foreign 9 5' = 1\nhold 2 0 = 1\n", """
            as 2 -1 = BEYOND
            as 2 0 = 0
            as 2 6 = 0
            as 2 7 = BEYOND
            as 2 2147483647 = BEYOND
            as 2 -2147483648 = BEYOND
            """);
        Script.each("40 as: SPOTS 0 to 9", ONE + "hold 0 0 = 1\nhold 9 0 = 1\n", """
            as -1 0 = BEYOND
            as 0 0 = 0
            as 8 0 = MISSING
            as 9 0 = 0
            as 10 0 = BEYOND
            as 2147483647 0 = BEYOND
            as -2147483648 0 = BEYOND
            """);
        Script.each("40 as: BEYOND, then MISSING, then KIND", ONE + "hold 1 0 = 1\n", """
            as 0 7 = BEYOND
            as 0 -1 = BEYOND
            as 10 7 = BEYOND
            as 0 0 = MISSING
            as 0 6 = MISSING
            as 1 6 = KIND
            as 1 7 = BEYOND
            """);
        Script.each("40 as: of the KIND that it is by now", ONE + "hold 1 0 = 1\n",
            "as 1 3 = KIND | change 0 0 3 = 0 | as 1 3 = 0 | as 1 2 = 0 | change 0 0 2 = 3 | as 1 3 = KIND");
    }

    private static void sheet() {
        Script.each("41 sheet: SHEETS 0 to 3", "", """
            sheet -1 8 1 = BEYOND
            sheet 0 8 1 = 1
            sheet 3 8 1 = 1 | load 3 = 0 | load 2 = MISSING
            sheet 4 8 1 = BEYOND
            sheet 2147483647 8 1 = BEYOND
            sheet -2147483648 8 1 = BEYOND
            """);
        Script.each("41 sheet: of 8, 16 or 32 bits, or 0", "", """
            sheet 0 -2147483648 1 = BEYOND
            sheet 0 -8 1 = BEYOND
            sheet 0 -1 1 = BEYOND
            sheet 0 0 1 = 0 | load 0 = MISSING
            sheet 0 1 1 = BEYOND
            sheet 0 7 1 = BEYOND
            sheet 0 8 1 = 1 | load 0 = 0
            sheet 0 9 1 = BEYOND
            sheet 0 15 1 = BEYOND
            sheet 0 16 1 = 1 | load 0 = 0
            sheet 0 17 1 = BEYOND
            sheet 0 24 1 = BEYOND
            sheet 0 31 1 = BEYOND
            sheet 0 32 1 = 1 | load 0 = 0
            sheet 0 33 1 = BEYOND
            sheet 0 64 1 = BEYOND
            sheet 0 2147483647 1 = BEYOND
            """);
        for (int bits = 0; bits <= 32; bits = bits == 0 ? 8 : bits * 2) {
            String call = "sheet 0 " + bits + " ";
            String told = bits == 0 ? "0" : "@";
            for (int n = 0; n <= 40; n = n == 1 ? 39 : n + 1) {
                Script.each("41 sheet: n 0 to 40", "", call + n + " = " + told.replace("@", "" + n));
            }
            Script.each("41 sheet: SIZE: n is below 0, also with bits 0", "",
                call + "-1 = SIZE\n" + call + "-2 = SIZE\n" + call + "-2147483648 = SIZE\n");
            Script.each("41 sheet: BEYOND: n is above 40, also with bits 0", "",
                call + "41 = BEYOND\n" + call + "42 = BEYOND\n" + call + "2147483647 = BEYOND\n");
        }
        Script.each("41 sheet: BEYOND ahead of SIZE", "", """
            sheet 4 8 -1 = BEYOND
            sheet -1 0 -1 = BEYOND
            sheet 0 7 -1 = BEYOND
            sheet 0 -8 -1 = BEYOND
            sheet 0 33 41 = BEYOND
            """);
        Script.each("41 sheet: a refused one stays as it was", ONE + "sheet 0 8 2 = 2\nwrite 0 0 1 = 1\n", """
            sheet 0 16 -1 = SIZE | load 0 = 1 | of 0 4 = 1 | write 0 1 256 = 1 | write 0 2 0 = BEYOND
            sheet 0 16 41 = BEYOND | load 0 = 1 | of 0 4 = 1
            sheet 0 9 1 = BEYOND | load 0 = 1 | of 0 4 = 1
            sheet 0 0 41 = BEYOND | load 0 = 1 | of 0 4 = 1
            sheet 0 0 -1 = SIZE | load 0 = 1 | of 0 4 = 1
            """);
        Script.each("41 sheet: all 0", ONE + "sheet 0 32 40 = 40\nwrite 0 0 7 = 1\nwrite 0 39 7 = 1\n", """
            load 0 = 0 | sheet 0 32 40 = 40 | load 0 = 1 | strike 0 1 = 0
            sheet 0 8 1 = 1 | sheet 0 32 40 = 40 | load 0 = 1 | strike 0 1 = 0
            sheet 0 0 0 = 0 | sheet 0 32 40 = 40 | load 0 = 1 | strike 0 1 = 0
            """);
        Script.each("41 sheet: a sheet of no numbers isn't MISSING", ONE, """
            sheet 1 16 0 = 0 | load 1 = 0 | strike 1 0 = 0 | judge 1 0 1 = 0 | copy 1 0 1 0 0 = 0 | write 1 0 0 = BEYOND
            sheet 1 0 9 = 0 | load 1 = MISSING | strike 1 0 = MISSING | judge 1 0 1 = MISSING | write 1 0 0 = MISSING
            """);
    }

    private static void write() {
        Script.each("42 write: SHEETS 0 to 3", "sheet 0 8 2 = 2\nsheet 3 8 2 = 2\n", """
            write -1 0 1 = BEYOND
            write 0 0 1 = 1
            write 3 0 1 = 1
            write 4 0 1 = BEYOND
            write 2147483647 0 1 = BEYOND
            write -2147483648 0 1 = BEYOND
            """);
        Script.each("42 write: BEYOND, then MISSING, then BEYOND", "", """
            write 4 -1 0 = BEYOND
            write 0 0 0 = MISSING
            write 0 -1 0 = MISSING
            write 3 40 0 = MISSING
            """);
        Script.each("42 write: no such number", "sheet 0 8 2 = 2\n", """
            write 0 -1 1 = BEYOND
            write 0 0 1 = 1
            write 0 1 1 = 1
            write 0 2 1 = BEYOND
            write 0 39 1 = BEYOND
            write 0 2147483647 1 = BEYOND
            write 0 -2147483648 1 = BEYOND
            """);
        Script.each("42 write: no such number of a full sheet", "sheet 0 8 40 = 40\n",
            "write 0 39 9 = 1 | strike 0 0 = NONE | write 0 40 1 = BEYOND");
        Script.each("42 write: no such number of an empty sheet", "sheet 0 8 0 = 0\n",
            "write 0 0 1 = BEYOND | write 0 -1 1 = BEYOND");
        Script.each("42 write: number i alone", "'coin 0 5;coin 0 5;coin 0 5' = 3\nsheet 0 16 3 = 3\n",
            "write 0 0 1 = 1 | load 0 = 3 | count 4 = 6\nwrite 0 2 1 = 1 | load 0 = 3 | count 4 = 3\n");
    }

    /** A sheet of one number: what it is then, as far as load() and strike() can tell. */
    private static void number(int bits, int written, String load, String strike) {
        Script.each("42 write: its lowest bits, of " + bits, SAME + "sheet 0 " + bits + " 1 = 1\n",
            "write 0 0 " + written + " = 1 | strike 0 0 = " + strike + " | load 0 = " + load);
    }

    private static void lowestBits() {
        number(8, 0, "1", "0");
        number(8, 1, "1", "0");
        number(8, 2, "0", "NONE");
        number(8, -1, "0", "NONE");
        number(8, 127, "0", "0");
        number(8, 128, "0", "NONE");          // -128
        number(8, -128, "0", "NONE");
        number(8, -129, "0", "0");            // 127
        number(8, 255, "0", "NONE");          // -1
        number(8, 256, "1", "0");             // 0
        number(8, 257, "1", "0");             // 1
        number(8, 258, "0", "NONE");          // 2
        number(8, 383, "0", "0");             // 127
        number(8, -255, "1", "0");            // 1
        number(8, -256, "1", "0");            // 0
        number(8, 2147483647, "0", "NONE");   // -1
        number(8, -2147483648, "1", "0");     // 0
        number(16, 127, "0", "0");
        number(16, 128, "0", "0");
        number(16, 255, "0", "0");
        number(16, 256, "0", "0");
        number(16, 257, "0", "NONE");
        number(16, 32767, "0", "NONE");
        number(16, 32768, "0", "NONE");
        number(16, 65535, "0", "NONE");       // -1
        number(16, 65536, "1", "0");          // 0
        number(16, 65537, "1", "0");          // 1
        number(16, 65791, "0", "0");          // 255
        number(16, -65281, "0", "0");         // 255
        number(16, -65535, "1", "0");         // 1
        number(16, 2147483647, "0", "NONE");
        number(16, -2147483648, "1", "0");
        number(32, 255, "0", "0");
        number(32, 256, "0", "0");
        number(32, -1, "0", "NONE");
        number(32, 65536, "0", "NONE");
        number(32, 65791, "0", "NONE");
        number(32, 16777216, "0", "NONE");
        number(32, 2147483647, "0", "NONE");
        number(32, -2147483648, "0", "NONE");
        Script.each("42 write: the LIES that come of wrapped numbers", "'coin 9 5' = 1\nsheet 0 8 1 = 1\n",
            "write 0 0 257 = 1 | load 0 = 1 | of 0 4 = 1 | write 0 0 256 = 1 | load 0 = 1 | of 0 4 = 0");
    }

    private static void copySheets() {
        String two = "sheet 0 8 5 = 5\nsheet 3 8 5 = 5\n";
        Script.each("43 copy: SHEETS 0 to 3, either", two, """
            copy -1 0 0 0 1 = BEYOND
            copy 0 0 3 0 1 = 1
            copy 3 0 0 0 1 = 1
            copy 4 0 0 0 1 = BEYOND
            copy 0 0 -1 0 1 = BEYOND
            copy 0 0 4 0 1 = BEYOND
            copy 2147483647 0 0 0 1 = BEYOND
            copy 0 0 -2147483648 0 1 = BEYOND
            """);
        Script.each("43 copy: MISSING: one is", two, """
            copy 1 0 0 0 1 = MISSING
            copy 0 0 1 0 1 = MISSING
            copy 1 0 2 0 1 = MISSING
            copy 1 0 1 0 0 = MISSING
            """);
        Script.each("43 copy: KIND: they are not of as many bits", two + "sheet 1 16 5 = 5\nsheet 2 32 5 = 5\n", """
            copy 0 0 1 0 1 = KIND
            copy 1 0 0 0 1 = KIND
            copy 0 0 2 0 1 = KIND
            copy 1 0 2 0 1 = KIND
            copy 2 0 1 0 0 = KIND
            copy 0 0 3 0 1 = 1
            """);
        Script.each("43 copy: BEYOND, MISSING, KIND, BEYOND", two + "sheet 1 16 5 = 5\n", """
            copy 2 0 4 0 1 = BEYOND
            copy 4 0 2 0 1 = BEYOND
            copy 0 -1 2 0 1 = MISSING
            copy 2 0 0 0 -1 = MISSING
            copy 0 -1 1 0 1 = KIND
            copy 0 0 1 0 6 = KIND
            copy 0 -1 3 0 1 = BEYOND
            """);
    }

    private static void copyRows() {
        String two = TEN + "sheet 0 8 5 = 5\nsheet 1 8 3 = 3\nwrite 0 0 1 = 1\nwrite 0 2 1 = 1\nwrite 0 4 1 = 1\n";
        Script.each("43 copy: from 0 on", two, """
            copy 0 -1 1 0 1 = BEYOND
            copy 0 0 1 0 1 = 1 | load 1 = 3 | count 4 = 1022
            copy 0 4 1 0 1 = 1 | load 1 = 3 | count 4 = 1022
            copy 0 5 1 0 1 = BEYOND
            copy 0 2147483647 1 0 1 = BEYOND
            copy 0 -2147483648 1 0 1 = BEYOND
            """);
        Script.each("43 copy: to 0 on", two, """
            copy 0 0 1 -1 1 = BEYOND
            copy 0 0 1 0 1 = 1 | load 1 = 3 | count 4 = 1022
            copy 0 0 1 2 1 = 1 | load 1 = 3 | count 4 = 1019
            copy 0 0 1 3 1 = BEYOND
            copy 0 0 1 2147483647 1 = BEYOND
            copy 0 0 1 -2147483648 1 = BEYOND
            """);
        Script.each("43 copy: n from 0 on", two, """
            copy 0 0 1 0 -1 = BEYOND
            copy 0 0 1 0 0 = 0 | load 1 = 3 | count 4 = 1023
            copy 0 0 1 0 3 = 3 | load 1 = 3 | count 4 = 1018
            copy 0 0 1 0 4 = BEYOND
            copy 0 0 1 0 2147483647 = BEYOND
            copy 0 0 1 0 -2147483648 = BEYOND
            copy 0 1 1 0 2147483647 = BEYOND
            copy 0 2147483647 1 2147483647 2147483647 = BEYOND
            copy 0 -1 1 -1 0 = BEYOND
            """);
        Script.each("43 copy: one has not so many", two, """
            copy 0 2 1 0 3 = 3 | load 1 = 3 | count 4 = 1018
            copy 0 3 1 0 3 = BEYOND
            copy 0 0 1 1 2 = 2 | load 1 = 3 | count 4 = 1021
            copy 0 0 1 1 3 = BEYOND
            copy 1 0 0 2 3 = 3 | load 0 = 5 | count 4 = 1022
            copy 1 0 0 3 3 = BEYOND
            copy 1 0 0 0 4 = BEYOND
            copy 1 1 0 0 3 = BEYOND
            """);
        Script.each("43 copy: none, at the end", two, """
            copy 0 5 1 3 0 = 0
            copy 0 6 1 0 0 = BEYOND
            copy 0 0 1 4 0 = BEYOND
            """);
        Script.each("43 copy: full sheets, empty sheets", "sheet 0 32 40 = 40\nsheet 1 32 40 = 40\nsheet 2 32 0 = 0\n", """
            copy 0 0 1 0 40 = 40
            copy 0 0 1 0 41 = BEYOND
            copy 0 1 1 0 40 = BEYOND
            copy 0 39 1 39 1 = 1
            copy 0 40 1 39 1 = BEYOND
            copy 0 39 1 40 1 = BEYOND
            copy 2 0 0 0 0 = 0
            copy 2 0 0 0 1 = BEYOND
            copy 0 0 2 0 1 = BEYOND
            copy 2 0 2 0 0 = 0
            """);
    }

    private static void copySelf() {
        String row = Script.items(5, "coin9 5") + "sheet 0 8 5 = 5\nwrite 0 0 1 = 1\nwrite 0 1 1 = 1\nwrite 0 3 1 = 1\n";
        Script.each("43 copy: as they all were, on the same sheet", row, """
            copy 0 0 0 1 4 = 4 | load 0 = 5 | count 4 = 8     # 1 1 1 0 1
            copy 0 1 0 0 4 = 4 | load 0 = 5 | count 4 = 26    # 1 0 1 0 0
            copy 0 0 0 0 5 = 5 | load 0 = 5 | count 4 = 20
            copy 0 0 0 2 3 = 3 | load 0 = 5 | count 4 = 16    # 1 1 1 1 0
            copy 0 0 0 1 5 = BEYOND
            """);
    }

    private static void load() {
        Script.each("44 load: SHEETS 0 to 3, MISSING", "sheet 0 8 1 = 1\nsheet 3 8 1 = 1\n" + ONE, """
            load -1 = BEYOND
            load 0 = 1
            load 1 = MISSING
            load 3 = 1
            load 4 = BEYOND
            load 2147483647 = BEYOND
            load -2147483648 = BEYOND
            """);
        Script.each("44 load: it ends at the first that isn't 0 or 1", TEN + "sheet 0 8 4 = 4\nwrite 0 0 1 = 1\nwrite 0 1 1 = 1\n", """
            load 0 = 4 | count 4 = 1020
            write 0 2 2 = 1 | load 0 = 2 | count 4 = 1020
            write 0 2 -1 = 1 | load 0 = 2 | count 4 = 1020
            write 0 2 1 = 1 | load 0 = 4 | count 4 = 1016
            write 0 0 2 = 1 | load 0 = 0 | count 4 = 1023
            write 0 0 -1 = 1 | load 0 = 0 | count 4 = 1023
            write 0 3 2 = 1 | load 0 = 3 | count 4 = 1020
            write 0 1 2 = 1 | write 0 2 1 = 1 | load 0 = 1 | count 4 = 1022
            """);
        Script.each("44 load: or for which there is no COIN", "sheet 0 8 3 = 3\nwrite 0 0 1 = 1\nwrite 0 1 1 = 1\nwrite 0 2 1 = 1\n", """
            load 0 = 0
            'coin 9 5' = 1 | load 0 = 1 | count 4 = 0
            'coin 9 5;coin 9 5' = 2 | load 0 = 2 | count 4 = 0
            'coin 9 5;coin 9 5;coin 9 5' = 3 | load 0 = 3 | count 4 = 0
            'coin 9 5;coin 9 5;coin 9 5;coin 9 5' = 4 | load 0 = 3 | count 4 = 8
            """);
        Script.each("44 load: a full sheet, an empty one", TEN + "sheet 0 32 40 = 40\nsheet 1 32 0 = 0\nwrite 0 9 1 = 1\n",
            "load 0 = 10 | count 4 = 511 | count 3 = 0\nload 1 = 0 | count 4 = 1023\n");
    }

    private static void strike() {
        String land = "'coin 3 4;coin 5 6;coin 9 9 in 3' = 3\nsheet 0 16 1 = 1\nsheet 3 16 1 = 1\n";
        Script.each("45 strike: SHEETS 0 to 3, MISSING", land, """
            strike -1 0 = BEYOND
            strike 0 0 = 0
            strike 1 0 = MISSING
            strike 3 0 = 0
            strike 4 0 = BEYOND
            strike 2147483647 0 = BEYOND
            """);
        Script.each("45 strike: PURSES 0 to 3", land + "write 0 0 9 = 1\n", """
            strike 0 -1 = BEYOND
            strike 0 0 = 1
            strike 0 1 = NONE
            strike 0 3 = 0
            strike 0 4 = BEYOND
            strike 0 2147483647 = BEYOND
            """);
        Script.each("45 strike: BEYOND, then MISSING, then BEYOND, then NONE", land + "write 0 0 7 = 1\n", """
            strike 4 4 = BEYOND
            strike 1 4 = MISSING
            strike 1 -1 = MISSING
            strike 0 4 = BEYOND
            strike 0 0 = NONE
            """);
        Script.each("45 strike: a number", land, """
            write 0 0 0 = 1 | strike 0 0 = 0 | strike 0 1 = 0
            write 0 0 -1 = 1 | strike 0 0 = NONE | strike 0 1 = NONE
            write 0 0 3 = 1 | strike 0 0 = 0
            write 0 0 4 = 1 | strike 0 0 = 1
            write 0 0 6 = 1 | strike 0 0 = 2
            write 0 0 8 = 1 | strike 0 0 = 0
            write 0 0 9 = 1 | strike 0 0 = 1
            write 0 0 10 = 1 | strike 0 0 = 3
            write 0 0 11 = 1 | strike 0 0 = NONE
            """);
        Script.each("45 strike: each number of a sheet", "'coin 3 4;coin 5 6' = 2\nsheet 0 16 3 = 3\n", """
            write 0 0 3 = 1 | write 0 1 5 = 1 | write 0 2 8 = 1 | strike 0 0 = 0
            write 0 0 3 = 1 | write 0 1 6 = 1 | write 0 2 9 = 1 | strike 0 0 = 2
            write 0 0 4 = 1 | write 0 1 6 = 1 | write 0 2 10 = 1 | strike 0 0 = 3
            write 0 0 3 = 1 | write 0 1 4 = 1 | strike 0 0 = NONE
            write 0 0 3 = 1 | write 0 1 5 = 1 | write 0 2 9 = 1 | strike 0 0 = NONE
            write 0 2 4 = 1 | strike 0 0 = 1
            """);
        Script.each("45 strike: the fewest COINS, of several the least", "'coin1 2;coin1 2;coin0 4' = 3\nsheet 0 8 2 = 2\n", """
            write 0 0 4 = 1 | strike 0 0 = 4
            write 0 0 3 = 1 | strike 0 0 = 1
            write 0 0 4 = 1 | write 0 1 3 = 1 | strike 0 0 = 5     # 2 1 4; 2 2 0 makes no 3
            """);
        Script.each("45 strike: no numbers, full sheets", TEN + "sheet 0 8 0 = 0\nsheet 1 8 40 = 40\n", """
            strike 0 0 = 0
            strike 1 0 = 0
            write 1 39 5 = 1 | strike 1 0 = 1
            write 1 0 9 = 1 | write 1 39 50 = 1 | strike 1 0 = 1     # 5 times 9, and 5
            write 1 0 91 = 1 | strike 1 0 = NONE
            write 1 39 91 = 1 | strike 1 0 = NONE
            write 1 39 86 = 1 | strike 1 0 = 1
            write 1 0 90 = 1 | write 1 39 86 = 1 | strike 1 0 = NONE
            """);
        Script.each("45 strike: the highest SUM", Script.items(10, "heavy0 99") + "sheet 0 16 1 = 1\n", """
            write 0 0 999 = 1 | strike 0 0 = NONE
            write 0 0 1000 = 1 | strike 0 0 = 1023
            write 0 0 1001 = 1 | strike 0 0 = NONE
            write 0 0 1024 = 1 | strike 0 0 = NONE
            write 0 0 10 = 1 | strike 0 0 = 0
            write 0 0 32767 = 1 | strike 0 0 = NONE
            write 0 0 -32768 = 1 | strike 0 0 = NONE
            """);
        Script.each("45 strike: a high number, then a low one", Script.items(10, "heavy0 99") + "sheet 0 16 2 = 2\n",
            "write 0 0 901 = 1 | write 0 1 1 = 1 | strike 0 0 = 511 | flip 0 1 = 0 | flip 0 901 = 511 | strike 0 0 = 511");
    }

    private static void judge() {
        String land = "'coin 9 5;coin 4 7;coin 1 1 in 3' = 3\nsheet 0 16 2 = 2\nsheet 3 16 2 = 2\n";
        Script.each("46 judge: SHEETS 0 to 3, MISSING", land, """
            judge -1 0 3 = BEYOND
            judge 0 0 3 = 0
            judge 1 0 3 = MISSING
            judge 3 0 3 = 0
            judge 4 0 3 = BEYOND
            judge 2147483647 0 3 = BEYOND
            """);
        Script.each("46 judge: PURSES 0 to 3, not one and the same", land, """
            judge 0 -1 0 = BEYOND
            judge 0 0 3 = 0
            judge 0 3 0 = 0
            judge 0 4 0 = BEYOND
            judge 0 0 -1 = BEYOND
            judge 0 0 4 = BEYOND
            judge 0 0 0 = BEYOND
            judge 0 3 3 = BEYOND
            judge 0 2147483647 -2147483648 = BEYOND
            """);
        Script.each("46 judge: BEYOND, then MISSING, then BEYOND", land, """
            judge 4 0 0 = BEYOND
            judge 1 0 0 = MISSING
            judge 1 4 0 = MISSING
            judge 0 0 0 = BEYOND
            """);
        Script.each("46 judge: 0 if each can be done; else 1 and how many can", land, """
            write 0 0 9 = 1 | judge 0 0 3 = 0
            write 0 0 9 = 1 | write 0 1 4 = 1 | judge 0 0 3 = 0
            write 0 0 9 = 1 | write 0 1 9 = 1 | judge 0 0 3 = 2
            write 0 0 2 = 1 | write 0 1 9 = 1 | judge 0 0 3 = 1
            write 0 0 9 = 1 | write 0 1 13 = 1 | judge 0 0 3 = 2
            """);
        Script.each("46 judge: no numbers, no coins", "sheet 0 16 0 = 0\nsheet 1 16 40 = 40\n", """
            judge 0 0 1 = 0
            judge 1 0 1 = 0
            write 1 39 1 = 1 | judge 1 0 1 = 40
            write 1 0 1 = 1 | judge 1 0 1 = 1
            """);
        Script.each("46 judge: as by buy(): v 0 to 999", "'" + "heavy99 9;".repeat(9) + "coin99 9' = 10\nsheet 0 16 1 = 1\n", """
            write 0 0 -1 = 1 | judge 0 0 1 = 1
            write 0 0 0 = 1 | judge 0 0 1 = 0
            write 0 0 998 = 1 | judge 0 0 1 = 1
            write 0 0 999 = 1 | judge 0 0 1 = 0
            write 0 0 1000 = 1 | judge 0 0 1 = 1
            write 0 0 32767 = 1 | judge 0 0 1 = 1
            write 0 0 -32768 = 1 | judge 0 0 1 = 1
            """);
        Script.each("46 judge: 1000 is there, but no buy()", Script.items(10, "heavy99 9") + "sheet 0 16 1 = 1\n",
            "write 0 0 1000 = 1 | judge 0 0 1 = 1 | write 0 0 900 = 1 | judge 0 0 1 = 0");
        Script.each("46 judge: nothing changes, no buy() is counted", land,
            "write 0 0 9 = 1 | write 0 1 9 = 1 | judge 0 0 3 = 2 | status -1 = 0 | purse 0 0 = 3 | count 3 = 0 | count 4 = 7");
        Script.each("46 judge: one behind the other", land,
            "write 0 0 9 = 1 | write 0 1 4 = 1 | judge 0 0 3 = 0 | buy 0 3 9 = 9 | buy 0 3 4 = 4 | judge 0 3 0 = 1");
    }
}
