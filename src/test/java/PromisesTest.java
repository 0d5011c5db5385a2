/** Each promise by hand: ordinary calls, the edges that the document names, wrong calls. */
public final class PromisesTest {
    public static void main(String[] args) {
        newObject();
        coins();
        worths();
        purses();
        payments();
        sums();
        purchases();
        changes();
        sides();
        days();
        draws();
        tape();
        texts();
        faults();
        spots();
        sheets();
        sheetUses();
        images();
        counts();
        Script.end();
    }

    private static void newObject() {
        Script.run("1 a new object", """
            count 0 = 0
            count 1 = 0
            count 2 = 0
            count 3 = 0
            count 4 = 0
            count 5 = 0
            count 6 = 1
            count 7 = 0
            status -1 = 0
            load 0 = MISSING
            load 3 = MISSING
            as 0 0 = MISSING
            as 9 0 = MISSING
            undo = NONE
            tear = 0
            wipe = 0
            """);
    }

    private static void coins() {
        Script.run("2 coin", """
            coin -1 0 0 = BEYOND
            coin 7 0 0 = BEYOND
            coin 0 -1 0 = BEYOND
            coin 0 100 0 = BEYOND
            coin 0 0 -1 = BEYOND
            coin 0 0 100 = BEYOND
            count 1 = 0
            coin 0 0 0 = 0
            coin 6 99 98 = 1
            of 1 0 = 6
            of 1 1 = 0
            of 1 2 = 99
            of 1 3 = 98
            of 1 4 = 0
            of 1 5 = 0
            coin 1 1 1 = 2
            coin 2 1 1 = 3
            coin 3 1 1 = 4
            coin 4 1 1 = 5
            coin 5 1 1 = 6
            coin 0 1 1 = 7
            coin 0 1 1 = 8
            coin 0 1 1 = 9
            coin 0 1 1 = FULL
            coin 7 1 1 = BEYOND
            count 1 = 10
            """);
        Script.run("2 coin: of a land made smaller by undo the next coin is new in all", """
            image = 1
            coin 6 9 7 = 0
            change 0 1 3 = 0
            turn 0 = 6
            undo = 0
            coin 0 5 4 = 0
            of 0 0 = 0
            of 0 1 = 0
            of 0 4 = 0
            of 0 5 = 0
            """);
        Script.run("3 of", """
            of 0 0 = BEYOND
            coin 5 9 7 = 0
            turn 0 = 6
            of 0 0 = 5
            of 0 1 = 0
            of 0 2 = 9
            of 0 3 = 7
            of 0 4 = 1
            of 0 5 = 1
            of 0 6 = 6
            of 0 7 = BEYOND
            of 0 -1 = BEYOND
            of -1 0 = BEYOND
            of 1 0 = BEYOND
            """);
        Script.run("4 change", """
            change 0 0 0 = BEYOND
            coin 0 9 7 = 0
            change 0 0 6 = 0
            change 0 0 7 = BEYOND
            change 0 0 -1 = BEYOND
            change 0 0 1 = 6
            change 0 1 3 = 0
            change 0 1 3 = 3
            change 0 1 4 = BEYOND
            change 0 2 99 = 9
            change 0 2 100 = BEYOND
            change 0 3 98 = 7
            change 0 3 100 = BEYOND
            change 0 3 -1 = BEYOND
            change 0 4 1 = 0
            change 0 4 2 = BEYOND
            change 0 5 0 = BEYOND
            change 0 -1 0 = BEYOND
            change 1 0 0 = BEYOND
            change -1 0 0 = BEYOND
            of 0 0 = 1
            of 0 1 = 3
            of 0 2 = 99
            of 0 3 = 98
            of 0 4 = 1
            of 0 5 = 0     # no change turned it
            of 0 6 = 99
            """);
    }

    private static void worths() {
        Script.run("5 turn", """
            turn 0 = BEYOND
            coin 0 9 7 = 0
            turn 0 = 7
            turn 0 = 9
            of 0 5 = 2
            coin 1 9 7 = 1
            turn 1 = 8
            turn 1 = 10
            coin 2 9 7 = 2
            turn 2 = 9
            of 2 4 = 0
            of 2 5 = 0
            coin 3 9 7 = 3
            turn 3 = 9
            of 3 5 = 0
            coin 4 9 7 = 4
            turn 4 = 10
            of 4 4 = 0
            of 4 5 = 2
            coin 5 2 7 = 5
            turn 5 = 6
            turn 5 = 0
            turn 5 = 4
            turn 5 = 0     # 2 less 4 is 0 at least
            coin 6 9 8 = 6
            turn 6 = 3     # half of 8 - 1, cut
            of 6 1 = 0
            turn -1 = BEYOND
            turn 7 = BEYOND
            """);
        Script.run("3 worth: by kinds and sides", """
            coin 2 9 7 = 0
            change 0 4 1 = 0
            of 0 6 = 7
            change 0 0 3 = 2
            of 0 6 = 9
            change 0 0 4 = 3
            of 0 6 = 8
            change 0 0 6 = 4
            of 0 6 = 3
            change 0 1 3 = 0
            of 0 6 = 7
            change 0 1 2 = 3
            of 0 6 = 3
            """);
    }

    private static void purses() {
        Script.run("6 purse", """
            purse 0 0 = 0
            purse 0 3 = 0
            coin 0 9 7 = 0
            coin 1 5 2 = 1
            coin 6 9 8 = 2
            coin 4 3 1 = 3
            change 1 1 2 = 0
            change 2 4 1 = 0
            change 3 4 1 = 0
            change 1 4 1 = 0
            purse 0 0 = 13
            purse 0 1 = 15    # 9 + 4 + 2
            purse 0 2 = 12
            purse 0 3 = 13    # 7 + (9 - 1) / 2 + 2
            purse 2 0 = 2
            purse 2 1 = 3
            purse 2 2 = 2
            purse 2 3 = 6
            purse 3 1 = 0
            count 3 = 0       # nothing turned
            purse 4 0 = BEYOND
            purse -1 0 = BEYOND
            purse 0 4 = BEYOND
            purse 0 -1 = BEYOND
            """);
        Script.run("6 purse: the foreign at home in purse 3", """
            coin 6 9 8 = 0
            change 0 1 3 = 0
            purse 3 1 = 9
            purse 3 3 = 7
            """);
        Script.run("7 sum", """
            sum 0 = 0
            sum 1 = BEYOND
            coin 0 9 7 = 0
            coin 1 5 2 = 1
            change 1 1 3 = 0
            sum 1 = 9
            sum 2 = 6
            sum 3 = 15
            sum 4 = BEYOND
            sum 7 = BEYOND
            sum -1 = BEYOND
            sum 0x7fffffff = BEYOND
            sum -2147483648 = BEYOND
            """);
    }

    private static void payments() {
        Script.run("8 pay", """
            coin 0 9 7 = 0
            coin 6 9 8 = 1
            coin 2 4 1 = 2
            pay 0 1 8 = BEYOND
            pay 0 1 -1 = BEYOND
            pay 0 0 1 = BEYOND
            pay 4 0 1 = BEYOND
            pay -1 0 1 = BEYOND
            pay 0 4 1 = BEYOND
            pay 0 -1 1 = BEYOND
            pay 1 0 8 = BEYOND    # ahead of STATE
            pay 1 0 1 = STATE
            pay 0 3 7 = 17        # 9 + 4 + 4, ahead of turning
            of 0 1 = 3
            of 0 6 = 7
            of 1 6 = 7            # at home: 8 - 1
            of 2 4 = 0
            pay 0 1 0 = 0
            pay 3 1 4 = 4
            pay 3 0 7 = STATE
            pay 3 0 3 = 14
            of 1 6 = 3            # (9 - 2) / 2
            of 0 5 = 2
            """);
        Script.run("9 there", """
            there 0 0 = BEYOND
            there 4 0 = BEYOND
            there 0 4 = BEYOND
            there -1 0 = BEYOND
            there 0 -1 = BEYOND
            there 0 1 = 0
            coin 5 9 7 = 0
            coin 0 3 4 = 1
            coin 5 9 8 = 2
            change 2 1 1 = 0
            there 0 1 = -2
            of 0 1 = 0
            of 0 5 = 2
            of 0 6 = 7
            of 1 5 = 2
            of 1 4 = 0
            of 2 5 = 0            # those of the other purse stay
            of 2 1 = 1
            there 2 0 = 0
            """);
    }

    private static void sums() {
        Script.run("10 can, 11 with", """
            can 0 0 = 1
            can 0 1 = 0
            with 0 0 = 0
            coin 0 3 9 = 0
            coin 0 5 9 = 1
            coin 0 3 9 = 2
            coin 0 8 9 = 3
            coin 0 1 9 = 4
            change 4 1 1 = 0
            can 0 8 = 1
            can 0 1 = 0           # it is in another purse
            can 1 1 = 1
            can 0 19 = 1
            can 0 20 = 0
            with 0 3 = 1
            with 0 8 = 3          # not 8, nor 6
            with 0 11 = 7
            with 0 19 = 15
            with 0 4 = NONE
            with 1 1 = 16
            can 0 -1 = BEYOND
            can 0 1000 = BEYOND
            can 0 999 = 0
            can 4 0 = BEYOND
            can -1 0 = BEYOND
            with 0 -1 = BEYOND
            with 0 1000 = BEYOND
            with 0 999 = NONE
            with 4 0 = BEYOND
            with -1 4 = BEYOND
            """);
        Script.run("12 sums, 13 cannot", """
            sums 0 = 1
            cannot 0 = 1
            coin 0 1 0 = 0
            coin 0 2 0 = 1
            coin 0 2 0 = 2
            sums 0 = 6            # 0 to 5
            cannot 0 = 6
            coin 0 0 0 = 3
            sums 0 = 6
            coin 0 9 0 = 4
            sums 0 = 12
            cannot 0 = 6
            change 0 1 1 = 0
            sums 0 = 6            # 0 2 4 9 11 13
            cannot 0 = 1
            cannot 1 = 2
            sums 2 = 1
            sums -1 = BEYOND
            sums 4 = BEYOND
            cannot -1 = BEYOND
            cannot 4 = BEYOND
            """);
        Script.run("12 sums, 13 cannot: the highest sum is 1000", """
            coin 1 99 0 = 0
            coin 1 99 0 = 1
            coin 1 99 0 = 2
            coin 1 99 0 = 3
            coin 1 99 0 = 4
            coin 1 99 0 = 5
            coin 1 99 0 = 6
            coin 1 99 0 = 7
            coin 1 99 0 = 8
            coin 4 99 0 = 9
            sums 0 = 11
            purse 0 1 = 1000
            can 0 900 = 1
            with 0 900 = 511
            can 0 999 = 0
            cost 0 1 900 = 900
            highest 0 = 1000
            ways 0 1000 = 1
            ways 0 901 = 11
            ways 0 902 = 1
            ways 0 9999 = 0
            change 9 2 98 = 99
            can 0 999 = 1
            with 0 999 = 1023
            flip 0 999 = 0
            strike 0 0 = MISSING
            sheet 0 16 1 = 1
            write 0 0 1000 = 1
            strike 0 0 = NONE
            change 9 2 99 = 98
            strike 0 0 = 0
            write 0 0 1001 = 1
            strike 0 0 = NONE
            write 0 0 1024 = 1
            strike 0 0 = NONE
            """);
    }

    private static void purchases() {
        Script.run("14 cost, 15 given, 16 back, 17 buy, 18 fewest", """
            coin 0 10 1 = 0       # 10 in purse 0
            coin 0 3 7 = 1        # 3 in purse 1; 7 as it comes back
            coin 0 7 0 = 2        # 7 in purse 0
            change 1 1 1 = 0
            cost 0 1 7 = 3        # 10 less a 3 that turns to 7
            given 0 1 7 = 1
            back 0 1 7 = 2
            fewest 0 1 7 = 1      # but the 7 alone is one coin
            cost 0 1 4 = 0
            given 0 1 4 = 4
            back 0 1 4 = 2
            fewest 0 1 4 = 2
            cost 0 1 0 = 0
            given 0 1 0 = 0
            back 0 1 0 = 0
            fewest 0 1 0 = 0
            cost 0 1 1 = NONE
            given 0 1 1 = NONE
            back 0 1 1 = NONE
            buy 0 1 1 = NONE
            fewest 0 1 1 = NONE
            cost 0 1 17 = 17
            cost 0 1 18 = NONE
            purse 0 1 = 17
            buy 0 1 7 = 3
            purse 0 0 = 6
            purse 0 1 = 14
            purse 1 0 = 1
            purse 1 1 = 1
            of 0 5 = 1
            of 1 5 = 1
            of 2 5 = 0
            """);
        Script.run("15 given: as little cost, then fewest coins, then the least given, then back", """
            coin 0 2 0 = 0
            coin 0 3 0 = 1
            coin 0 5 0 = 2
            coin 0 5 0 = 3
            cost 0 1 5 = 5
            given 0 1 5 = 4       # one coin, not 3 of two, not 8
            cost 0 1 10 = 10
            given 0 1 10 = 12     # two coins, not the three of 7
            """);
        Script.run("15 given, 16 back: the least back", """
            coin 0 9 0 = 0
            coin 0 4 6 = 1
            coin 0 4 6 = 2
            coin 0 4 6 = 3
            change 1 1 2 = 0
            change 2 1 2 = 0
            change 3 1 2 = 0
            cost 0 2 5 = 3
            given 0 2 5 = 1
            back 0 2 5 = 2
            cost 0 2 1 = -3       # 9 away, 6 and 6 come
            back 0 2 1 = 6
            buy 0 2 1 = -3
            purse 0 1 = 12
            """);
        Script.run("16 back: worths as it comes, the foreign by the purse where it comes", """
            coin 6 20 9 = 0
            change 0 1 3 = 0
            coin 0 20 1 = 1
            cost 0 3 0 = 0        # 20 for (9 - 1) / 2 is no good
            cost 3 0 0 = 0
            change 0 3 99 = 9
            cost 0 3 0 = -29      # (99 - 1) / 2 for 20
            given 0 3 0 = 2
            back 0 3 0 = 1
            """);
        Script.run("14 to 18: wrong calls", """
            coin 0 5 5 = 0
            cost 0 0 0 = BEYOND
            cost 4 0 0 = BEYOND
            cost 0 4 0 = BEYOND
            cost -1 0 0 = BEYOND
            cost 0 -1 0 = BEYOND
            cost 0 1 -1 = BEYOND
            cost 0 1 1000 = BEYOND
            cost 0 1 999 = NONE
            given 0 0 0 = BEYOND
            given 0 4 0 = BEYOND
            given 0 1 -1 = BEYOND
            given 0 1 1000 = BEYOND
            given 0 1 999 = NONE
            back 0 0 0 = BEYOND
            back -1 0 0 = BEYOND
            back 0 1 -1 = BEYOND
            back 0 1 1000 = BEYOND
            buy 0 0 0 = BEYOND
            buy 0 4 0 = BEYOND
            buy 0 1 -1 = BEYOND
            buy 0 1 1000 = BEYOND
            buy 0 1 999 = NONE
            fewest 0 0 0 = BEYOND
            fewest 4 0 0 = BEYOND
            fewest 0 1 -1 = BEYOND
            fewest 0 1 1000 = BEYOND
            fewest 0 1 999 = NONE
            count 3 = 0
            """);
        Script.run("19 dearth", """
            dearth 0 1 = 1
            coin 0 1 0 = 0
            coin 0 2 0 = 1
            coin 0 9 0 = 2
            dearth 0 1 = 4
            coin 0 6 0 = 3
            change 3 1 1 = 0
            dearth 0 1 = 7        # 9 - 6, 10 - 6, 11 - 6, 12 - 6
            dearth 1 0 = 1
            change 0 2 3 = 1
            dearth 1 0 = 2        # 6 - 3 - 2, but not 2
            dearth 2 3 = 1
            dearth 0 0 = BEYOND
            dearth 0 4 = BEYOND
            dearth 4 0 = BEYOND
            dearth -1 0 = BEYOND
            dearth 0 -1 = BEYOND
            """);
    }

    private static void changes() {
        Script.run("20 gain, 21 lot, 22 deal, 23 deals, 24 partner", """
            coin 0 5 8 = 0
            coin 0 5 6 = 1
            change 1 1 1 = 0
            coin 0 5 9 = 2
            change 2 1 2 = 0
            gain 0 1 = 4          # 8 + 6 - 10
            lot 0 1 = 1
            lot 1 0 = 2
            gain 1 0 = 4
            partner 0 = 2         # 8 + 9 - 10
            partner 1 = 2
            partner 2 = 0
            partner 3 = NONE
            gain 0 3 = NONE
            lot 0 3 = NONE
            deal 0 3 = NONE
            deals 0 3 = 0
            deals 0 1 = 1
            count 3 = 0
            deal 0 1 = 4
            purse 0 0 = 2
            purse 1 0 = 1
            purse 0 1 = 6
            purse 1 1 = 8
            of 0 5 = 1
            deal 0 1 = NONE
            deals 0 1 = 0
            """);
        Script.run("20 gain: neither may be left less, only changes of like sums", """
            coin 0 5 20 = 0
            coin 0 5 4 = 1
            change 1 1 1 = 0
            gain 0 1 = NONE       # purse 0 would have 4 for 5
            change 1 3 5 = 4
            gain 0 1 = 15
            change 1 2 6 = 5
            gain 0 1 = NONE
            """);
        Script.run("20 gain: coins worth 0 alone", """
            coin 0 0 9 = 0
            gain 0 1 = 9          # it goes for nothing
            lot 0 1 = 1
            lot 1 0 = 0
            deal 1 0 = 9
            purse 1 1 = 9
            """);
        Script.run("21 lot: of as much gain the least given, then back", """
            coin 0 4 6 = 0
            coin 0 4 6 = 1
            coin 0 4 5 = 2
            coin 0 4 5 = 3
            coin 0 8 9 = 4
            change 2 1 1 = 0
            change 3 1 1 = 0
            change 4 1 1 = 0
            gain 0 1 = 6          # both for both: 6 + 6 + 5 + 5 - 16
            lot 0 1 = 3
            lot 1 0 = 12
            change 1 3 4 = 6
            gain 0 1 = 4          # both for both, or one of 5 with the first: 6 + 5 - 8 is 3 alone
            """);
        Script.run("21 lot: least sets of many alike", """
            coin 0 4 5 = 0
            coin 0 4 4 = 1
            coin 0 4 4 = 2
            coin 0 4 4 = 3
            change 2 1 1 = 0
            change 3 1 1 = 0
            gain 0 1 = 1
            lot 0 1 = 1
            lot 1 0 = 4
            change 0 3 4 = 5
            change 3 3 5 = 4
            gain 0 1 = 1
            lot 0 1 = 1
            lot 1 0 = 8
            deal 0 1 = 1
            of 2 1 = 1
            of 3 1 = 0
            """);
        Script.run("23 deals: one behind the other", """
            coin 4 5 5 = 0
            deals 0 1 = 0         # it never gains
            change 0 0 0 = 4
            change 0 3 8 = 5
            coin 0 5 6 = 1
            coin 0 3 9 = 2
            coin 2 9 9 = 3
            change 1 1 1 = 0
            change 3 1 1 = 0
            deals 0 1 = 2
            deals 1 0 = 2
            count 3 = 0
            deal 0 1 = 4          # 5 for 5: 8 and 6
            deal 0 1 = 5          # 6 + 3 for 9: 5 + 9, and 9
            deal 0 1 = NONE
            deals 0 1 = 0
            """);
        Script.run("24 partner: of as much gain the least purse", """
            coin 0 0 3 = 0
            change 0 1 2 = 0
            partner 2 = 0
            partner 0 = 2
            partner 3 = 2
            partner 1 = 2
            gain 0 0 = BEYOND
            gain 4 0 = BEYOND
            gain 0 4 = BEYOND
            gain -1 0 = BEYOND
            gain 0 -1 = BEYOND
            lot 0 0 = BEYOND
            lot 0 4 = BEYOND
            lot -1 0 = BEYOND
            deal 2 2 = BEYOND
            deal 0 4 = BEYOND
            deal -1 0 = BEYOND
            deals 0 0 = BEYOND
            deals 4 0 = BEYOND
            deals 0 -1 = BEYOND
            partner -1 = BEYOND
            partner 4 = BEYOND
            """);
        Script.run("25 round", """
            round 0 1 = BEYOND
            coin 0 5 6 = 0
            round 0 1 = 1
            round 0 0 = BEYOND    # its own
            round 0 4 = BEYOND
            round 0 -1 = BEYOND
            round 1 1 = BEYOND
            round -1 1 = BEYOND
            change 0 3 5 = 6
            round 0 1 = NONE
            coin 6 8 4 = 1        # worth 4; at home ship 3, then king 6 / 2
            round 1 3 = NONE
            change 1 3 6 = 4
            round 1 3 = 1         # 6 - 1 at home
            change 1 1 3 = 0
            round 1 0 = NONE
            coin 0 0 0 = 2
            of 0 5 = 0            # nothing was paid
            of 1 5 = 0
            """);
        Script.run("25 round: up to six times", """
            coin 6 20 0 = 0       # worth 10; at home only with the ship up, worth 0
            round 0 3 = NONE
            change 0 4 1 = 0      # worth 0; at home king: 20 - 1
            round 0 3 = 1
            round 0 1 = 1         # 19 / 2
            coin 4 5 5 = 1
            round 1 1 = NONE
            coin 2 5 9 = 2
            round 2 1 = NONE
            """);
    }

    private static void sides() {
        Script.run("26 flip", """
            flip 0 0 = 0
            flip 0 1 = NONE
            coin 0 3 4 = 0
            coin 0 5 4 = 1
            coin 3 9 1 = 2
            coin 0 50 60 = 3
            change 3 1 1 = 0
            flip 0 8 = 0
            flip 0 4 = 1          # the first, not the second
            flip 0 7 = 2          # 3 + 4
            flip 0 9 = 0
            flip 0 1 = NONE       # the forged is worth 9 both ways
            flip 0 16 = 2
            flip 0 18 = 1         # 4 + 5 + 9, not 4 + 4 + 9
            flip 0 17 = 0         # 3 + 5 + 9
            flip 0 60 = NONE
            flip 1 60 = 8
            count 4 = 15
            flip 0 -1 = BEYOND
            flip 0 1000 = BEYOND
            flip 0 999 = NONE
            flip 4 0 = BEYOND
            flip -1 0 = BEYOND
            """);
        Script.run("26 flip: as they are but lies, so no coin is turned", """
            coin 5 9 7 = 0
            flip 0 7 = 1
            flip 0 6 = NONE
            turn 0 = 6
            flip 0 8 = 1
            coin 4 3 5 = 1
            flip 0 6 = 0
            coin 2 3 11 = 2
            flip 0 11 = 1         # 8 + 3, the least
            flip 0 17 = 4         # 6 + 11, one coin; 8 + 6 + 3 are two
            """);
        Script.run("26 flip: fewest ahead of the least number", """
            coin 0 1 2 = 0
            coin 0 1 2 = 1
            coin 0 0 4 = 2
            flip 0 4 = 4          # one coin; 3 would be two
            flip 0 3 = 1
            """);
        Script.run("18 fewest, 26 flip, 45 strike: of all ten coins", """
            'coin0 1;coin0 1;coin0 1;coin0 1;coin0 1;coin0 1;coin0 1;coin0 1;coin0 1;coin0 1' = 10
            flip 0 9 = 511
            flip 0 10 = 1023
            flip 0 11 = NONE
            sheet 0 8 2 = 2
            write 0 0 10 = 1
            strike 0 0 = 1023
            fewest 0 1 10 = NONE
            there 0 1 = 0
            sheet 1 8 10 = 10
            write 1 0 1 = 1
            copy 1 0 1 1 1 = 1
            copy 1 0 1 2 2 = 2
            copy 1 0 1 4 4 = 4
            copy 1 0 1 8 2 = 2
            load 1 = 10
            fewest 0 1 10 = 10
            fewest 0 1 9 = 9
            given 0 1 10 = 1023
            buy 0 1 10 = 10
            sum 1023 = 0
            flip 1 10 = 1023
            """);
        Script.run("27 highest, 28 wrong", """
            highest 0 = 0
            wrong = 0
            coin 0 3 4 = 0
            coin 0 5 5 = 1
            coin 3 2 9 = 2
            coin 1 7 1 = 3
            highest 0 = 19        # 4 + 5 + 2 + 8
            wrong = 1
            change 3 4 1 = 0
            highest 0 = 19
            wrong = 9
            change 3 1 2 = 0
            highest 0 = 11
            highest 2 = 8
            wrong = 9             # of all purses
            coin 6 5 4 = 4
            change 4 4 1 = 0
            wrong = 9             # half of 5 and half of 4 are alike
            change 4 1 3 = 0
            wrong = 25
            highest 3 = 5
            coin 5 1 0 = 5
            turn 5 = 0
            wrong = 25            # worn to 0 both ways
            highest -1 = BEYOND
            highest 4 = BEYOND
            """);
        Script.run("29 ways", """
            ways 0 0 = 1
            ways 0 1 = 0
            coin 0 3 4 = 0
            coin 0 5 9 = 1
            coin 3 2 9 = 2
            coin 0 1 1 = 3
            change 3 1 3 = 0
            ways 0 0 = 8
            ways 0 10 = 8         # 10 11 14 15, each twice
            ways 0 11 = 6
            ways 0 12 = 4
            ways 0 15 = 2
            ways 0 16 = 0
            change 0 4 1 = 0
            ways 0 11 = 6
            ways 3 1 = 2
            ways 2 0 = 1
            ways 0 9999 = 0
            ways 0 10000 = BEYOND
            ways 0 -1 = BEYOND
            ways 4 0 = BEYOND
            ways -1 0 = BEYOND
            """);
        Script.run("30 kindFor", """
            kindFor 0 = BEYOND
            coin 0 5 9 = 0
            kindFor 0 = 1
            change 0 4 1 = 0
            kindFor 0 = 1
            change 0 3 3 = 9
            kindFor 0 = 3         # 5 against 3 + 1
            change 0 3 4 = 3
            kindFor 0 = 1         # 5 against 4 + 1: the least
            change 0 0 6 = 0
            kindFor 0 = 1
            of 0 0 = 6
            kindFor -1 = BEYOND
            kindFor 1 = BEYOND
            """);
    }

    private static void days() {
        Script.run("31 days, 32 ahead", """
            days 0 = BEYOND
            days -1 = BEYOND
            days 61 = BEYOND
            ahead 0 -1 = BEYOND
            ahead 0 61 = BEYOND
            ahead 4 0 = BEYOND
            ahead -1 0 = BEYOND
            coin 0 5 9 = 0
            coin 2 3 4 = 1
            coin 4 6 7 = 2
            coin 5 8 2 = 3
            change 0 4 1 = 0
            change 1 4 1 = 0
            change 2 4 1 = 0
            purse 0 1 = 29        # 9 + 4 + 8 + 8
            ahead 0 0 = 29
            ahead 0 1 = 25        # the first turns to 5
            ahead 0 60 = 25
            ahead 1 60 = 0
            count 0 = 0
            days 1 = 3            # day 0: the edged and twice lie so still
            count 0 = 1
            of 0 4 = 0
            of 0 5 = 1
            of 1 5 = 0
            of 2 5 = 2
            days 6 = 0            # days 1 to 6
            count 0 = 7
            days 1 = 2            # day 7
            days 60 = 16          # 14 21 28 35 42 49 56 63
            count 0 = 68
            turn 3 = 1
            ahead 0 2 = 18        # 5 + 4 + 8 + 1: days 68 and 69
            ahead 0 3 = 23        # day 70: worn, king again, 8 - 2
            """);
        Script.run("31 days, 32 ahead: day 999 is the last", """
            days 60 = 0
            days 60 = 0
            days 60 = 0
            days 60 = 0
            days 60 = 0
            days 60 = 0
            days 60 = 0
            days 60 = 0
            days 60 = 0
            days 60 = 0
            days 60 = 0
            days 60 = 0
            days 60 = 0
            days 60 = 0
            days 60 = 0
            days 60 = 0
            count 0 = 960
            days 40 = STATE
            days 61 = BEYOND
            ahead 0 40 = STATE
            ahead 0 61 = BEYOND
            ahead 4 60 = BEYOND
            ahead 0 39 = 0
            days 39 = 0
            count 0 = 999
            days 1 = STATE
            ahead 0 1 = STATE
            ahead 0 0 = 0
            """);
    }

    private static void draws() {
        // From z = 1 the draws are 4310654, 9862832, 2589156, 12872603, 16337887, 9829236, 14279350, 10288046, ..
        Script.run("33 market", """
            market 0 = BEYOND
            market 13 = BEYOND
            market -1 = BEYOND
            market 1 = STATE
            market 12 = STATE
            count 6 = 1
            coin 0 5 9 = 0
            coin 0 6 2 = 1
            coin 0 20 30 = 2
            market 1 = 31         # 4310654 % 3 is 2, 9862832 % 4 is 0: it is there
            of 2 5 = 0
            market 1 = 26         # 2589156 % 3 is 0, 12872603 % 4 is 3
            of 0 1 = 3
            of 0 4 = 1
            of 0 5 = 1
            market 1 = 26         # 16337887 % 3 is 1, 9829236 % 4 is 0
            of 1 5 = 0
            market 1 = 20         # 14279350 % 3 is 1, 10288046 % 4 is 2
            of 1 1 = 2
            of 1 5 = 1
            seed 1 = @@
            change 0 1 0 = 3
            change 1 1 0 = 2
            change 0 4 0 = 1
            change 1 4 0 = 1
            market 4 = 20
            """.replace("@@", "" + after(8)));
        Script.run("33 market: nothing, if it is there, but both draws are made", """
            coin 0 5 9 = 0
            market 1 = 5
            of 0 5 = 0
            """ + "count 6 = " + after(2) + "\n");
        Script.run("34 toss", """
            coin 0 5 9 = 0
            coin 2 5 9 = 1
            coin 2 5 9 = 2
            change 1 4 1 = 0
            toss 0 20 = 0
            toss 7 0 = 0
            count 6 = 1
            toss 5 1 = 2          # 4310654, 9862832
            toss 3 2 = 2          # 2589156, 12872603, 16337887, 9829236
            count 4 = 5
            count 3 = 0
            toss 8 1 = BEYOND
            toss -1 1 = BEYOND
            toss 1 -1 = BEYOND
            toss 1 21 = BEYOND
            """ + "count 6 = " + after(6) + "\n");
        Script.run("35 seed", """
            seed -1000001 = 1
            seed 5 = -1000001     # no finding
            count 6 = 5
            seed -1000004 = 5
            count 6 = -1000004
            status -1 = 0
            seed -2147483648 = -1000004
            count 6 = -2147483648
            """);
    }

    private static int after(int draws) {
        int z = 1;
        for (int i = 0; i < draws; i++) {
            z = z * 1103515245 + 12345;
        }
        return z;
    }

    private static void tape() {
        StringBuilder full = new StringBuilder();
        for (int i = 1; i < 30; i++) {
            full.append("feed 0x20202020 4 = ").append(4 * i).append('\n');
        }
        Script.run("36 feed, 37 wipe", full + """
            feed 0 5 = BEYOND
            feed 0 0 = BEYOND
            feed 0 -1 = BEYOND
            feed 32 3 = 119
            feed 32 2 = FULL
            feed 32 5 = BEYOND
            count 5 = 119
            feed 32 1 = 120
            feed 32 1 = FULL
            wipe = 120
            count 5 = 0
            wipe = 0
            feed 32 1 = 1
            """);
        Script.run("36 feed: the n lowest bytes, the highest of these first", """
            feed 0x636f696e 4 = 4     # coin
            feed 0x41203132 3 = 7     # 12 behind a blank
            feed 0x41414120 1 = 8
            feed 0x41413334 2 = 10    # 34
            text = 1
            of 0 2 = 12
            of 0 3 = 34
            feed -1 4 = 4
            text = -1
            feed -1 1 = 1
            """);
    }

    private static void texts() {
        Script.run("38 text", """
            'coin 12 34' = 1
            count 5 = 0
            of 0 0 = 0
            of 0 1 = 0
            of 0 2 = 12
            of 0 3 = 34
            of 0 4 = 0
            of 0 5 = 0
            'heavy 1 2 in 3;edged 3 4 ship;forged 5 6 in 2 ship;twice7 8in1ship' = 4
            of 1 0 = 1
            of 1 1 = 3
            of 1 4 = 0
            of 2 0 = 2
            of 2 1 = 0
            of 2 4 = 1
            of 3 0 = 3
            of 3 1 = 2
            of 3 4 = 1
            of 4 0 = 4
            of 4 1 = 1
            of 4 2 = 7
            of 4 3 = 8
            of 4 4 = 1
            'worn 0 99;foreign 99 0 in 0; pay 5 to 1 ;pay 5 to 0' = 4
            of 5 0 = 5
            of 5 1 = 0
            of 5 5 = 2
            of 6 0 = 6
            of 6 2 = 99
            '  coin   1    2   ;  pay   0   to   1  ' = 2
            of 0 1 = 1
            of 0 4 = 1
            of 0 5 = 1
            of 0 6 = 34
            'coin 007 0000000000099 in 0003' = 1
            of 8 2 = 7
            of 8 3 = 99
            of 8 1 = 3
            """);
        Script.run("38 text: with a fault nothing changes but the tape", """
            coin 0 1 2 = 0
            hold 0 0 = 1
            'coin 3 4; pay 0 to 2; pay 1 to 3; coin 5' = -41
            count 1 = 1
            of 0 1 = 0
            of 0 5 = 0
            count 5 = 0
            count 6 = 1
            status -1 = 0
            'coin 3 4; pay 0 to 2; pay 1 to 3; coin 5 6' = 4
            count 1 = 3
            count 7 = 1
            of 0 1 = 2
            """);
    }

    private static void faults() {
        Script.each("38 text: faults", "", """
            text = -1
            '   ' = -4
            'coin' = -5
            'coin ' = -6
            'coin 1' = -7
            'coin 1 ' = -8
            'coin 1 2 in' = -12
            'coin 1 2;' = -10
            'coin 1 2 ; ' = -12
            'pay' = -4
            ';' = -1
            ' 5' = -2
            'ship' = -1
            'in' = -1
            'to' = -1
            'Coin 1 2' = -1
            'coiN 1 2' = -1
            'coinN 1 2' = -5
            'coins 1 2' = -1
            'coinz 1 2' = -1
            'coina 1 2' = -1
            'coin 1 2 { 3' = -10
            'coin`1 2' = -5
            'coin/1 2' = -5
            'coin 1:2' = -7
            'boin 1 2' = -1
            'cbin 1 2' = -1
            'coi 1 2' = -1
            'coi' = -1
            ' silver 1 2' = -2
            'coin 100 2' = -6
            'coin 1000 2' = -6
            'coin 99999999999999999999 2' = -6
            'coin 1 100' = -8
            'coin a 2' = -6
            'coin ; 2' = -6
            'coin 1 a' = -8
            'coin -1 2' = -6
            'coin 1 2 3' = -10
            'coin 1 2 in 4' = -13
            'coin 1 2 in ship' = -13
            'coin 1 2 in 1000' = -13
            'coin 1 2 inship' = -10
            'coin 1 2 in 1 in 2' = -15
            'coin 1 2 ship in 1' = -15
            'coin 1 2 ship ship' = -15
            'coin 1 2 coin 1 2' = -10
            'coin 1 2 pay' = -10
            'coin 1 2,' = -9
            'coin 1 2;;' = -10
            'coin 1 2;5' = -10
            'coin 1 2:' = -9
            'pay 0 to 1' = -5
            'coin 1 2;pay 1 to 1' = -14
            'coin 1 2;pay 0 to 0' = -19
            'coin 1 2 in 3;pay 0 to 3' = -24
            'coin 1 2 in 3;pay 0 to 4' = -24
            'coin 1 2;pay 0 in 1' = -16
            'coin 1 2;pay 0' = -15
            'coin 1 2;pay 0 to' = -18
            'coin 1 2;pay 0 to ' = -19
            'coin 1 2;pay 0 to 1 ship' = -21
            'coin 1 2;pay 0 to 1;pay 0 to 1' = -30
            'coin 1 2;pay coin to 1' = -14
            'coin 1 2;pay 0 to 1;pay 0 to 0' = 3
            """);
        Script.run("38 text: bytes of no token", """
            feed 'coin'
            feed 9 1 = 5             # a tab is no blank
            text = -5
            feed 'coin 1 2'
            feed 0 1 = 9
            text = -9
            feed 'coin 1 2'
            feed 255 1 = 9
            text = -9
            feed 225 1 = 1           # an a with its highest bit
            text = -1
            feed 'coin '
            feed 177 1 = 6
            text = -6
            """);
        Script.run("38 text: the word of an 11th coin", """
            'coin1 2;coin1 2;coin1 2;coin1 2;coin1 2;coin1 2;coin1 2;coin1 2;coin1 2' = 9
            'coin 1 2; foreign 100' = -11
            'coin 1 2; cent' = -11
            count 1 = 9
            'pay 8 to 1;coin 1 2;pay 9 to 3' = 3
            'worn' = -1
            'pay 9 to 1; worn 1 2' = -13
            of 9 1 = 3
            'pay 10 to 1' = -5
            count 1 = 10
            """);
    }

    private static void spots() {
        Script.run("39 hold, 40 as", """
            hold 0 0 = BEYOND
            hold 0 -1 = 1
            hold 9 -1 = 1
            hold 10 -1 = BEYOND
            hold -1 -1 = BEYOND
            hold 0 -2 = BEYOND
            as 0 0 = MISSING
            as 10 0 = BEYOND
            as -1 0 = BEYOND
            as 0 7 = BEYOND
            as 0 -1 = BEYOND
            coin 0 1 1 = 0
            coin 1 1 1 = 1
            coin 2 1 1 = 2
            coin 3 1 1 = 3
            coin 4 1 1 = 4
            coin 5 1 1 = 5
            coin 6 1 1 = 6
            hold 0 7 = BEYOND
            hold 0 0 = 1
            hold 1 1 = 1
            hold 2 2 = 1
            hold 3 3 = 1
            hold 4 4 = 1
            hold 5 5 = 1
            hold 9 6 = 1
            count 7 = 7
            as 0 0 = 0
            as 0 1 = KIND
            as 0 6 = KIND
            as 1 0 = 1
            as 1 1 = 1
            as 1 4 = KIND
            as 1 2 = KIND
            as 2 0 = 2
            as 2 2 = 2
            as 2 3 = KIND
            as 3 0 = 3
            as 3 2 = 3
            as 3 3 = 3
            as 3 1 = KIND
            as 4 0 = 4
            as 4 1 = 4
            as 4 4 = 4
            as 4 2 = KIND
            as 4 5 = KIND
            as 5 0 = 5
            as 5 5 = 5
            as 5 6 = KIND
            as 9 0 = 6
            as 9 5 = 6
            as 9 6 = 6
            as 9 1 = KIND
            as 6 6 = MISSING
            as 6 7 = BEYOND
            hold 9 6 = 1
            hold 8 6 = 1          # in two spots
            as 8 6 = 6
            hold 9 -1 = 1
            as 9 6 = MISSING
            change 3 0 0 = 3      # the spot holds the coin, whatever it becomes
            as 3 3 = KIND
            """);
    }

    private static void sheets() {
        Script.run("41 sheet", """
            sheet 4 8 1 = BEYOND
            sheet -1 8 1 = BEYOND
            sheet 0 7 1 = BEYOND
            sheet 0 64 1 = BEYOND
            sheet 0 -8 1 = BEYOND
            sheet 0 7 -1 = BEYOND     # ahead of SIZE
            sheet 4 8 -1 = BEYOND
            sheet 0 8 -1 = SIZE
            sheet 0 0 -1 = SIZE
            sheet 0 0 41 = BEYOND
            sheet 0 32 41 = BEYOND
            sheet 0 32 40 = 40
            write 0 39 1 = 1
            sheet 0 32 41 = BEYOND
            write 0 39 1 = 1          # it is as it was
            sheet 0 0 40 = 0
            load 0 = MISSING
            sheet 0 0 0 = 0
            sheet 3 16 0 = 0
            load 3 = 0                # it is not MISSING
            write 3 0 0 = BEYOND
            coin 0 1 2 = 0
            sheet 1 8 2 = 2
            write 1 0 1 = 1
            load 1 = 1
            sheet 1 8 2 = 2           # all 0 again
            load 1 = 1
            of 0 4 = 0
            """);
        Script.run("42 write", """
            write 4 0 0 = BEYOND
            write -1 0 0 = BEYOND
            write 0 0 0 = MISSING
            write 0 -1 0 = MISSING    # ahead of BEYOND
            sheet 0 8 2 = 2
            write 0 2 0 = BEYOND
            write 0 -1 0 = BEYOND
            coin 0 3 4 = 0
            coin 0 3 4 = 1
            write 0 0 257 = 1         # of 8 bits: 1
            load 0 = 2
            of 0 4 = 1
            write 0 0 255 = 1         # -1
            load 0 = 0
            strike 0 0 = NONE
            sheet 0 16 2 = 2
            write 0 0 257 = 1
            load 0 = 0
            write 0 0 65536 = 1
            load 0 = 2
            write 0 0 65535 = 1
            strike 0 0 = NONE
            sheet 0 32 2 = 2
            write 0 0 65536 = 1
            load 0 = 0
            write 0 0 -1 = 1
            load 0 = 0
            """);
        Script.run("43 copy", """
            copy 0 0 4 0 0 = BEYOND
            copy 4 0 0 0 0 = BEYOND
            copy -1 0 0 0 0 = BEYOND
            copy 0 0 -1 0 0 = BEYOND
            copy 0 0 0 0 0 = MISSING
            sheet 0 8 5 = 5
            copy 0 0 1 0 0 = MISSING
            copy 1 -1 0 0 0 = MISSING
            sheet 1 16 5 = 5
            copy 0 0 1 0 0 = KIND
            copy 0 -1 1 0 0 = KIND    # ahead of BEYOND
            sheet 1 8 3 = 3
            copy 0 0 1 0 4 = BEYOND
            copy 0 3 1 0 3 = BEYOND
            copy 0 0 1 1 3 = BEYOND
            copy 0 -1 1 0 1 = BEYOND
            copy 0 0 1 -1 1 = BEYOND
            copy 0 0 1 0 -1 = BEYOND
            copy 0 0x7fffffff 1 0 1 = BEYOND
            copy 0 1 1 0 0x7fffffff = BEYOND
            copy 0 6 1 0 0 = BEYOND
            copy 0 5 1 3 0 = 0
            coin 0 5 9 = 0
            coin 0 5 9 = 1
            coin 0 5 9 = 2
            coin 0 5 9 = 3
            coin 0 5 9 = 4
            write 0 1 1 = 1
            write 0 3 1 = 1
            load 0 = 5
            count 4 = 21
            copy 0 1 1 0 3 = 3        # 1 0 1
            load 1 = 3
            count 4 = 18
            copy 0 0 0 1 4 = 4        # 0 0 1 0 1, as they all were
            load 0 = 5
            count 4 = 11
            copy 0 1 0 0 4 = 4        # 0 1 0 1 1
            load 0 = 5
            count 4 = 5
            """);
    }

    private static void sheetUses() {
        Script.run("44 load", """
            load 4 = BEYOND
            load -1 = BEYOND
            load 0 = MISSING
            sheet 0 32 4 = 4
            load 0 = 0            # there are no coins
            coin 0 5 9 = 0
            coin 5 5 9 = 1
            write 0 1 1 = 1
            load 0 = 2
            count 4 = 1
            count 3 = 0
            write 0 0 1 = 1
            write 0 1 2 = 1
            load 0 = 1
            count 4 = 0           # the first came, the second is as it was
            write 0 0 -1 = 1
            load 0 = 0
            """);
        Script.run("45 strike", """
            strike 4 0 = BEYOND
            strike 0 0 = MISSING
            strike 0 4 = MISSING  # ahead of BEYOND
            sheet 0 16 0 = 0
            strike 0 4 = BEYOND
            strike 0 -1 = BEYOND
            strike 0 0 = 0        # no number asks anything
            coin 0 3 4 = 0
            coin 0 5 4 = 1
            coin 0 20 4 = 2
            coin 0 9 4 = 3
            change 3 1 1 = 0
            sheet 0 16 2 = 2
            strike 0 0 = 0
            write 0 0 4 = 1
            strike 0 0 = 1
            write 0 1 3 = 1
            strike 0 0 = 2        # the first must stay 3
            write 0 1 20 = 1
            strike 0 0 = 1
            write 0 1 12 = 1
            strike 0 0 = 4        # 4, and 3 + 5 + 4
            write 0 1 13 = 1
            strike 0 0 = 5        # 4, and 4 + 5 + 4
            write 0 0 9 = 1
            write 0 1 8 = 1
            strike 0 0 = 4        # 5 + 4, 3 + 5
            change 1 2 6 = 5
            write 0 0 12 = 1
            strike 0 0 = 7        # 8 and 12: all three must be 4
            change 1 2 5 = 6
            write 0 0 9 = 1
            write 0 1 -1 = 1
            strike 0 0 = NONE
            write 0 1 30000 = 1
            strike 0 0 = NONE
            strike 0 1 = NONE
            write 0 1 9 = 1
            strike 0 1 = 0
            write 0 0 4 = 1
            strike 0 1 = NONE
            count 4 = 15
            """);
        Script.run("46 judge", """
            judge 4 0 0 = BEYOND
            judge 0 0 0 = MISSING # ahead of BEYOND
            sheet 0 16 0 = 0
            judge 0 0 0 = BEYOND
            judge 0 4 0 = BEYOND
            judge 0 0 4 = BEYOND
            judge 0 -1 0 = BEYOND
            judge 0 0 -1 = BEYOND
            judge 0 0 1 = 0
            coin 0 3 4 = 0
            coin 0 5 7 = 1
            sheet 0 16 3 = 3
            judge 0 0 1 = 0
            write 0 0 3 = 1
            write 0 1 5 = 1
            judge 0 0 1 = 0
            write 0 2 1 = 1
            judge 0 0 1 = 3       # two can
            write 0 1 1 = 1
            write 0 2 0 = 1
            judge 0 0 1 = 0       # 5 for the 4 that was given
            write 0 0 1000 = 1
            judge 0 0 1 = 1
            write 0 0 -1 = 1
            judge 0 0 1 = 1
            judge 0 1 0 = 1
            status -1 = 7         # what judge tries is no act
            count 3 = 0
            purse 0 0 = 3
            """);
    }

    private static void images() {
        Script.run("47 image, 48 undo, 49 tear", """
            undo = NONE
            coin 0 5 9 = 0
            hold 3 0 = 1
            days 8 = 0
            seed 77 = 1
            image = 1
            coin 1 2 2 = 1
            turn 0 = 9
            change 0 1 2 = 0
            change 0 0 4 = 0
            change 0 2 1 = 5
            change 0 3 1 = 9
            hold 3 1 = 1
            hold 4 0 = 1
            days 5 = 0
            seed 78 = 77
            feed 0x636f696e 4 = 4
            sheet 0 8 3 = 3
            status 3 = 1
            undo = 8
            count 0 = 8
            count 1 = 1
            count 5 = 4           # the tape is not kept
            count 6 = 77
            count 7 = 1
            as 3 0 = 0
            load 0 = 1            # nor are sheets
            of 0 0 = 0
            of 0 1 = 0
            of 0 2 = 5
            of 0 3 = 9
            of 0 4 = 0
            of 0 5 = 0
            status 3 = 1          # nor findings
            turn 0 = 9
            undo = 8              # it stays
            of 0 6 = 5
            turn 0 = 9
            image = 1             # the latest counts
            turn 0 = 5
            undo = 8
            of 0 6 = 9
            tear = 1
            undo = NONE
            of 0 6 = 9
            tear = 0
            image = 1
            tear = 1
            """);
    }

    private static void counts() {
        Script.run("50 count", """
            coin 0 5 9 = 0
            coin 4 6 2 = 1
            coin 5 9 8 = 2
            turn 1 = 7
            turn 2 = 7
            change 1 1 3 = 0
            hold 0 0 = 1
            hold 9 0 = 1
            days 3 = 1
            feed 0 3 = 3
            count 0 = 3
            count 1 = 3
            count 2 = 19          # 5 + 7 + 9 - 2
            count 3 = 4
            count 4 = 7
            count 5 = 3
            count 6 = 1
            count 7 = 2
            change 2 4 1 = 0
            count 4 = 3
            count 8 = BEYOND
            count -1 = BEYOND
            """);
        Script.run("51 status", """
            status -1 = 0
            status 0 = 0
            status 6 = 0
            status 7 = BEYOND
            status 0 = 1
            status -2 = BEYOND
            status 0 = 2
            status -1 = 2
            market 1 = STATE
            status 4 = 1
            undo = NONE
            status 3 = 1
            sheet 0 8 -1 = SIZE
            status 6 = 1
            load 0 = MISSING
            status 5 = 1
            sheet 0 8 1 = 1
            sheet 1 16 1 = 1
            copy 0 0 1 0 1 = KIND
            status 2 = 1
            'coin1 2;coin1 2;coin1 2;coin1 2;coin1 2;coin1 2;coin1 2;coin1 2;coin1 2;coin1 2' = 10
            coin 0 0 0 = FULL
            status 1 = 1
            'coin' = -1           # no finding
            status -1 = 8
            image = 1
            turn 10 = BEYOND
            undo = 0
            status 0 = 3          # undo takes none back
            status -1 = 9
            deals 2 3 = 0
            status 3 = 1          # what it seeks is no act
            """);
    }
}
