/** The boundaries that the promises 47 to 51 name, each sentence by itself. */
public final class ImagesBoundariesTest {
    private static final String TEN = Script.items(10, "coin9 5");

    public static void main(String[] args) {
        kept();
        whatIsKept();
        torn();
        counts();
        status();
        countedOnce();
        Script.end();
    }

    private static void kept() {
        Script.each("48 undo: NONE: nothing is kept", "", """
            undo = NONE
            undo = NONE | undo = NONE | status 3 = 2
            coin 0 9 5 = 0 | undo = NONE | count 1 = 1
            image = 1 | undo = 0
            image = 1 | tear = 1 | undo = NONE
            """);
        Script.each("48 undo: what was kept latest, which stays", "coin 0 9 5 = 0\nimage = 1\ncoin 0 7 6 = 1\n", """
            undo = 0 | count 1 = 1 | coin 0 1 1 = 1 | coin 0 1 1 = 2 | undo = 0 | count 1 = 1 | undo = 0 | count 1 = 1
            image = 1 | coin 0 1 1 = 2 | undo = 0 | count 1 = 2 | of 1 2 = 7 | undo = 0 | count 1 = 2
            """);
        Script.each("48 undo: DAY", "days 60 = 0\nimage = 1\ndays 3 = 0\n", "undo = 60 | count 0 = 60");
        Script.each("47 image: of an empty land, of a full one", "image = 1\n" + TEN, """
            undo = 0 | count 1 = 0 | count 4 = 0 | purse 0 0 = 0 | coin 6 1 2 = 0 | of 0 1 = 0
            image = 1 | change 9 1 3 = 0 | turn 0 = 5 | undo = 0 | count 1 = 10 | of 9 1 = 0 | of 0 5 = 0
            """);
        Script.each("47 image: what changes then isn't kept", "coin 0 9 5 = 0\nimage = 1\n", "turn 0 = 5 | undo = 0 | of 0 6 = 9");
    }

    private static void whatIsKept() {
        String land = "coin 0 9 5 = 0\nhold 3 0 = 1\nseed 7 = 1\ndays 2 = 0\nimage = 1\n";
        Script.each("47 image: all but THE TAPE and SHEETS", land, """
            change 0 0 4 = 0 | undo = 2 | of 0 0 = 0
            change 0 1 3 = 0 | undo = 2 | of 0 1 = 0
            change 0 2 1 = 9 | undo = 2 | of 0 2 = 9
            change 0 3 1 = 5 | undo = 2 | of 0 3 = 5
            change 0 4 1 = 0 | undo = 2 | of 0 4 = 0
            turn 0 = 5 | turn 0 = 9 | undo = 2 | of 0 5 = 0
            hold 3 -1 = 1 | undo = 2 | as 3 0 = 0
            hold 4 0 = 1 | undo = 2 | count 7 = 1
            seed 8 = 7 | undo = 2 | count 6 = 7
            days 9 = 0 | undo = 2 | count 0 = 2
            coin 0 1 1 = 1 | undo = 2 | count 1 = 1
            """);
        Script.each("47 image: THE TAPE is not kept", land + "feed 'coin 1 1'\n", """
            undo = 2 | count 5 = 8 | text = 1
            wipe = 8 | undo = 2 | count 5 = 0
            image = 1 | feed 32 1 = 9 | undo = 2 | count 5 = 9
            """);
        Script.each("47 image: SHEETS are not kept", "coin 0 9 5 = 0\nsheet 0 8 1 = 1\nimage = 1\n", """
            write 0 0 1 = 1 | undo = 0 | load 0 = 1 | of 0 4 = 1
            sheet 0 0 0 = 0 | undo = 0 | load 0 = MISSING
            sheet 1 8 1 = 1 | undo = 0 | load 1 = 1
            """);
    }

    private static void torn() {
        Script.each("49 tear: 1 if something was, else 0", "", """
            tear = 0
            tear = 0 | tear = 0
            image = 1 | tear = 1
            image = 1 | image = 1 | tear = 1 | tear = 0
            image = 1 | undo = 0 | tear = 1 | undo = NONE
            image = 1 | tear = 1 | image = 1 | undo = 0
            """);
        Script.each("49 tear: nothing else changes", "coin 0 9 5 = 0\nimage = 1\nturn 0 = 5\n", "tear = 1 | of 0 6 = 5 | status -1 = 0");
    }

    private static void counts() {
        String land = "'coin 9 5;twice 7 6 in 3' = 2\nturn 0 = 5\nturn 1 = 8\nhold 0 0 = 1\nhold 9 0 = 1\nhold 5 1 = 1\n";
        Script.each("50 count: what 0 to 7", land + "days 60 = 1\nfeed 0 4 = 4\nseed -5 = 1\n", """
            count -1 = BEYOND
            count 0 = 60
            count 1 = 2
            count 2 = 17
            count 3 = 4
            count 4 = 3
            count 5 = 4
            count 6 = -5
            count 7 = 3
            count 8 = BEYOND
            count 2147483647 = BEYOND
            count -2147483648 = BEYOND
            """);
        Script.each("50 count: of an empty land", "", "count 2 = 0 | count 3 = 0 | count 4 = 0 | count 7 = 0");
        Script.each("50 count: of all ten", Script.items(10, "heavy99 0"), """
            count 1 = 10
            count 2 = 1000
            count 4 = 1023
            there 0 1 = 0 | count 3 = 20
            change 9 4 1 = 0 | count 4 = 511 | count 2 = 901
            change 9 1 3 = 0 | count 2 = 1000 | count 4 = 1023
            """);
        Script.each("50 count: TURNS of all, of each COIN", "'coin 9 5;coin 9 5' = 2",
            "turn 0 = 5 | count 3 = 1\nturn 1 = 5 | count 3 = 1\nturn 0 = 5 | turn 1 = 5 | count 3 = 2\n");
    }

    private static void status() {
        Script.each("51 status: -1 to 6", "", """
            status -1 = 0
            status 0 = 0
            status 1 = 0
            status 2 = 0
            status 3 = 0
            status 4 = 0
            status 5 = 0
            status 6 = 0
            status 7 = BEYOND
            status -2 = BEYOND
            status 2147483647 = BEYOND
            status -2147483648 = BEYOND
            """);
        Script.each("51 status: BEYOND, counted from then on", "", """
            status 7 = BEYOND | status 0 = 1 | status -1 = 1
            status -2 = BEYOND | status 0 = 1 | status -2 = BEYOND | status 0 = 2 | status -1 = 2
            """);
        Script.each("51 status: all, and each by itself", "of 0 0 = BEYOND\nof 0 0 = BEYOND\nundo = NONE\nload 0 = MISSING\n",
            "status -1 = 4 | status 0 = 2 | status 3 = 1 | status 5 = 1 | status 1 = 0 | status 2 = 0 | status 4 = 0 | status 6 = 0");
        Script.each("51 status: undo() takes none back", "image = 1\nof 0 0 = BEYOND\nmarket 1 = STATE\n",
            "undo = 0 | status 0 = 1 | status 4 = 1 | status -1 = 2");
    }

    /** Acts that look at what others do count at most one finding, their own. */
    private static void countedOnce() {
        Script.each("51 status: how many acts", "'coin 5 5;coin 5 5 in 1' = 2\nsheet 0 8 2 = 2\nwrite 0 1 9 = 1\n", """
            partner 0 = NONE | status -1 = 1
            deals 0 1 = 0 | status -1 = 0
            judge 0 0 1 = 2 | status -1 = 0
            buy 0 1 9 = NONE | status -1 = 1
            deal 0 1 = NONE | status -1 = 1
            dearth 0 1 = 1 | status -1 = 0
            'x' = -1 | status -1 = 0
            copy 0 0 1 0 1 = MISSING | status -1 = 1
            cost 0 0 -1 = BEYOND | status -1 = 1
            coin 7 -1 100 = BEYOND | status -1 = 1
            """);
    }
}
