import java.util.Arrays;

/** Coins that turn as they are paid, their purses, and what can be paid with them. */
public final class TurningCoins {
    private static final int BEYOND = -1000001;
    private static final int FULL = BEYOND - 1;
    private static final int KIND = BEYOND - 2;
    private static final int NONE = BEYOND - 3;
    private static final int STATE = BEYOND - 4;
    private static final int MISSING = BEYOND - 5;
    private static final int SIZE = BEYOND - 6;
    private static final int FINDINGS = 7;
    /** No finding: the way is free. */
    private static final int FREE = 0;

    private static final int COIN = 0;
    private static final int HEAVY = 1;
    private static final int EDGED = 2;
    private static final int FORGED = 3;
    private static final int TWICE = 4;
    private static final int WORN = 5;
    private static final int FOREIGN = 6;
    private static final int KINDS = 7;
    /** The kind above each kind; none is above COIN. */
    private static final int[] ABOVE = {-1, COIN, COIN, EDGED, HEAVY, COIN, WORN};

    private static final int COINS = 10;
    private static final int SETS = 1 << COINS;
    private static final int PURSES = 4;
    private static final int HOME_OF_FOREIGN = 3;
    private static final int MOST_FACE = 99;
    private static final int KING_UP = 0;
    private static final int SHIP_UP = 1;

    /** A heavy coin is worth one more than its face: no sum is above this. */
    private static final int MOST_SUM = COINS * (MOST_FACE + 1);
    private static final int MOST_PRICE = 999;
    private static final int MOST_WAYS_SUM = 9999;
    private static final int MOST_DEALS = 20;
    private static final int MOST_ROUNDS = 6;

    private static final int LAST_DAY = 999;
    private static final int MOST_DAYS = 60;
    private static final int WEEK = 7;
    private static final int MOST_MARKETS = 12;
    private static final int MOST_THROWS = 20;

    private static final int TAPE = 120;
    private static final int SPOTS = 10;
    private static final int NOTHING = -1;
    private static final int SHEETS = 4;
    private static final int SHEET_NUMBERS = 40;

    private final Land land = new Land();
    /** Where acts are tried out that may not stay. */
    private final Land trial = new Land();
    private final Land kept = new Land();
    private boolean isKept = false;
    private final int[] tape = new int[TAPE];
    private int tapeLength = 0;
    private final Reader reader = new Reader();
    private final Sheet[] sheets = new Sheet[SHEETS];
    private final Reach reach = new Reach();
    private final Trades trades = new Trades();
    private final int[] found = new int[FINDINGS];

    public TurningCoins() {
        for (int s = 0; s < SHEETS; s++) {
            sheets[s] = new Sheet();
        }
    }

    // ---- coins

    public int coin(int kind, int king, int ship) {
        if (!isWithin(kind, KINDS - 1) || !isWithin(king, MOST_FACE) || !isWithin(ship, MOST_FACE)) {
            return tell(BEYOND);
        }
        if (land.coinCount >= COINS) {
            return tell(FULL);
        }
        return land.addCoin(kind, king, ship);
    }

    public int of(int coin, int what) {
        if (!land.hasCoin(coin)) {
            return tell(BEYOND);
        }
        Coin c = land.coins[coin];
        switch (what) {
            case 0: return c.kind;
            case 1: return c.purse;
            case 2: return c.king;
            case 3: return c.ship;
            case 4: return c.lies;
            case 5: return c.turns;
            case 6: return c.worthNow();
            default: return tell(BEYOND);
        }
    }

    public int change(int coin, int what, int v) {
        if (!land.hasCoin(coin) || !isWithin(v, mostOf(what))) {
            return tell(BEYOND);
        }
        return land.coins[coin].replace(what, v);
    }

    public int turn(int coin) {
        if (!land.hasCoin(coin)) {
            return tell(BEYOND);
        }
        land.coins[coin].turnOver();
        return land.coins[coin].worthNow();
    }

    public int purse(int purse, int what) {
        if (!isPurse(purse)) {
            return tell(BEYOND);
        }
        int set = land.coinsIn(purse);
        switch (what) {
            case 0: return set;
            case 1: return land.worthOf(set);
            case 2: return set & land.coinsLying(SHIP_UP);
            case 3: return land.worthIfTurned(set);
            default: return tell(BEYOND);
        }
    }

    public int sum(int set) {
        return land.hasSet(set) ? land.worthOf(set) : tell(BEYOND);
    }

    // ---- payments

    public int pay(int from, int to, int set) {
        if (!areTwoPurses(from, to) || !land.hasSet(set)) {
            return tell(BEYOND);
        }
        if ((set & ~land.coinsIn(from)) != 0) {
            return tell(STATE);
        }
        int paid = land.worthOf(set);
        land.paySet(set, to);
        return paid;
    }

    public int there(int from, int to) {
        if (!areTwoPurses(from, to)) {
            return tell(BEYOND);
        }
        int set = land.coinsIn(from);
        int before = land.worthOf(set);
        land.paySet(set, to);
        land.paySet(set, from);
        return land.worthOf(set) - before;
    }

    public int can(int purse, int v) {
        if (!isPurse(purse) || !isWithin(v, MOST_PRICE)) {
            return tell(BEYOND);
        }
        reach.gather(land, land.coinsIn(purse));
        return reach.isReached(v) ? 1 : 0;
    }

    public int with(int purse, int v) {
        if (!isPurse(purse) || !isWithin(v, MOST_PRICE)) {
            return tell(BEYOND);
        }
        int set = trades.leastSetWorth(land, land.coinsIn(purse), v);
        return set >= 0 ? set : tell(NONE);
    }

    public int sums(int purse) {
        if (!isPurse(purse)) {
            return tell(BEYOND);
        }
        reach.gather(land, land.coinsIn(purse));
        return reach.reachedCount();
    }

    public int cannot(int purse) {
        if (!isPurse(purse)) {
            return tell(BEYOND);
        }
        reach.gather(land, land.coinsIn(purse));
        return reach.firstUnreached(1);
    }

    public int cost(int from, int to, int v) {
        int finding = seekPayment(from, to, v);
        return finding == FREE ? trades.amount : tell(finding);
    }

    public int given(int from, int to, int v) {
        int finding = seekPayment(from, to, v);
        return finding == FREE ? trades.given : tell(finding);
    }

    public int back(int from, int to, int v) {
        int finding = seekPayment(from, to, v);
        return finding == FREE ? trades.back : tell(finding);
    }

    public int buy(int from, int to, int v) {
        int finding = seekPayment(from, to, v);
        if (finding != FREE) {
            return tell(finding);
        }
        land.exchange(trades.given, to, trades.back, from);
        return trades.amount;
    }

    public int fewest(int from, int to, int v) {
        if (!areTwoPurses(from, to) || !isWithin(v, MOST_PRICE)) {
            return tell(BEYOND);
        }
        int coins = trades.fewestCoins(land, from, to, v);
        return coins >= 0 ? coins : tell(NONE);
    }

    public int dearth(int from, int to) {
        if (!areTwoPurses(from, to)) {
            return tell(BEYOND);
        }
        int theirs = land.coinsIn(to);
        int theirWorth = land.worthOf(theirs);
        // What is given and what the other keeps, as one set, is worth the price and all that the other has.
        reach.gather(land, land.coinsIn(from) | theirs);
        int v = reach.firstUnreached(theirWorth + 1) - theirWorth;
        return v <= MOST_PRICE ? v : tell(NONE);
    }

    // ---- changes, rounds

    public int gain(int one, int other) {
        int finding = seekChange(one, other);
        return finding == FREE ? trades.amount : tell(finding);
    }

    public int lot(int one, int other) {
        int finding = seekChange(one, other);
        return finding == FREE ? trades.given : tell(finding);
    }

    public int deal(int one, int other) {
        int finding = seekChange(one, other);
        if (finding != FREE) {
            return tell(finding);
        }
        land.exchange(trades.given, other, trades.back, one);
        return trades.amount;
    }

    public int deals(int one, int other) {
        if (!areTwoPurses(one, other)) {
            return tell(BEYOND);
        }
        trial.become(land);
        int done = 0;
        while (done < MOST_DEALS && trades.findChange(trial, one, other)) {
            trial.exchange(trades.given, other, trades.back, one);
            done++;
        }
        return done;
    }

    public int partner(int p) {
        if (!isPurse(p)) {
            return tell(BEYOND);
        }
        int best = NOTHING;
        int most = 0;
        for (int other = 0; other < PURSES; other++) {
            if (other != p && trades.findChange(land, p, other) && trades.amount > most) {
                best = other;
                most = trades.amount;
            }
        }
        return best >= 0 ? best : tell(NONE);
    }

    public int round(int coin, int other) {
        if (!land.hasCoin(coin) || !areTwoPurses(land.coins[coin].purse, other)) {
            return tell(BEYOND);
        }
        trial.become(land);
        Coin c = trial.coins[coin];
        int own = c.purse;
        int before = c.worthNow();
        for (int times = 1; times <= MOST_ROUNDS; times++) {
            c.payTo(c.purse == own ? other : own);
            if (c.worthNow() > before) {
                return times;
            }
        }
        return tell(NONE);
    }

    // ---- sides

    public int flip(int purse, int v) {
        if (!isPurse(purse) || !isWithin(v, MOST_PRICE)) {
            return tell(BEYOND);
        }
        reach.wantNothing();
        reach.want(v);
        int set = reach.fewestFlips(land, land.coinsIn(purse));
        return set >= 0 ? set : tell(NONE);
    }

    public int highest(int purse) {
        if (!isPurse(purse)) {
            return tell(BEYOND);
        }
        int most = 0;
        for (int c = 0; c < land.coinCount; c++) {
            Coin coin = land.coins[c];
            if (coin.purse == purse) {
                most += Math.max(coin.worthNow(), coin.worthOtherWay());
            }
        }
        return most;
    }

    public int wrong() {
        int set = 0;
        for (int c = 0; c < land.coinCount; c++) {
            if (land.coins[c].worthOtherWay() > land.coins[c].worthNow()) {
                set |= 1 << c;
            }
        }
        return set;
    }

    public int ways(int purse, int v) {
        if (!isPurse(purse) || !isWithin(v, MOST_WAYS_SUM)) {
            return tell(BEYOND);
        }
        return trades.waysWorth(land, land.coinsIn(purse), v);
    }

    public int kindFor(int coin) {
        if (!land.hasCoin(coin)) {
            return tell(BEYOND);
        }
        Coin c = land.coins[coin];
        int best = COIN;
        for (int kind = 1; kind < KINDS; kind++) {
            if (c.worthAs(kind) > c.worthAs(best)) {
                best = kind;
            }
        }
        return best;
    }

    // ---- days, draws

    public int days(int n) {
        if (n < 1 || n > MOST_DAYS) {
            return tell(BEYOND);
        }
        if (land.day + n > LAST_DAY) {
            return tell(STATE);
        }
        return land.passDays(n);
    }

    public int ahead(int purse, int n) {
        if (!isPurse(purse) || !isWithin(n, MOST_DAYS)) {
            return tell(BEYOND);
        }
        if (land.day + n > LAST_DAY) {
            return tell(STATE);
        }
        trial.become(land);
        trial.passDays(n);
        return trial.worthOf(trial.coinsIn(purse));
    }

    public int market(int n) {
        if (n < 1 || n > MOST_MARKETS) {
            return tell(BEYOND);
        }
        if (land.coinCount <= 0) {
            return tell(STATE);
        }
        for (int i = 0; i < n; i++) {
            Coin c = land.coins[land.draw() % land.coinCount];
            int to = land.draw() % PURSES;
            if (c.purse != to) {
                c.payTo(to);
            }
        }
        return land.worthOf(land.coinsIn(0));
    }

    public int toss(int set, int n) {
        if (!land.hasSet(set) || !isWithin(n, MOST_THROWS)) {
            return tell(BEYOND);
        }
        // As they lie again as ahead of it, only the draws and the count are needed.
        int thrown = n * Integer.bitCount(set);
        int kings = 0;
        for (int i = 0; i < thrown; i++) {
            if (land.draw() % 2 == 0) {
                kings++;
            }
        }
        return kings;
    }

    public int seed(int v) {
        int before = land.z;
        land.z = v;
        return before;
    }

    // ---- texts

    public int feed(int bytes, int n) {
        if (n < 1 || n > 4) {
            return tell(BEYOND);
        }
        if (tapeLength + n > TAPE) {
            return tell(FULL);
        }
        for (int i = n - 1; i >= 0; i--) {
            tape[tapeLength] = (bytes >>> (8 * i)) & 255;
            tapeLength++;
        }
        return tapeLength;
    }

    public int wipe() {
        int before = tapeLength;
        tapeLength = 0;
        return before;
    }

    public int text() {
        trial.become(land);
        int items = reader.readText(tape, tapeLength, trial);
        if (items >= 0) {
            land.become(trial);
        }
        tapeLength = 0;
        return items;
    }

    // ---- spots, sheets

    public int hold(int spot, int coin) {
        if (!isWithin(spot, SPOTS - 1) || (coin != NOTHING && !land.hasCoin(coin))) {
            return tell(BEYOND);
        }
        land.spots[spot] = coin;
        return 1;
    }

    public int as(int spot, int kind) {
        if (!isWithin(spot, SPOTS - 1) || !isWithin(kind, KINDS - 1)) {
            return tell(BEYOND);
        }
        int held = land.spots[spot];
        if (!land.hasCoin(held)) {
            return tell(MISSING);
        }
        return land.coins[held].isA(kind) ? held : tell(KIND);
    }

    public int sheet(int s, int bits, int n) {
        if (!isSheet(s) || (bits != 0 && bits != 8 && bits != 16 && bits != 32)) {
            return tell(BEYOND);
        }
        if (n < 0) {
            return tell(SIZE);
        }
        if (n > SHEET_NUMBERS) {
            return tell(BEYOND);
        }
        sheets[s].clear(bits, n);
        return sheets[s].size;
    }

    public int write(int s, int i, int v) {
        int finding = seekSheet(s);
        if (finding != FREE) {
            return tell(finding);
        }
        if (!isWithin(i, sheets[s].size - 1)) {
            return tell(BEYOND);
        }
        sheets[s].put(i, v);
        return 1;
    }

    public int copy(int s, int from, int t, int to, int n) {
        if (!isSheet(s) || !isSheet(t)) {
            return tell(BEYOND);
        }
        Sheet source = sheets[s];
        Sheet target = sheets[t];
        if (source.isMissing() || target.isMissing()) {
            return tell(MISSING);
        }
        if (source.bits != target.bits) {
            return tell(KIND);
        }
        if (!source.hasRow(from, n) || !target.hasRow(to, n)) {
            return tell(BEYOND);
        }
        System.arraycopy(source.numbers, from, target.numbers, to, n);
        return n;
    }

    public int load(int s) {
        int finding = seekSheet(s);
        if (finding != FREE) {
            return tell(finding);
        }
        Sheet source = sheets[s];
        int most = Math.min(source.size, land.coinCount);
        int came = 0;
        while (came < most && isWithin(source.numbers[came], SHIP_UP)) {
            land.coins[came].lies = source.numbers[came];
            came++;
        }
        return came;
    }

    public int strike(int s, int purse) {
        int finding = seekSheet(s);
        if (finding != FREE) {
            return tell(finding);
        }
        if (!isPurse(purse)) {
            return tell(BEYOND);
        }
        reach.wantNothing();
        for (int i = 0; i < sheets[s].size; i++) {
            reach.want(sheets[s].numbers[i]);
        }
        int set = reach.fewestFlips(land, land.coinsIn(purse));
        return set >= 0 ? set : tell(NONE);
    }

    public int judge(int s, int from, int to) {
        int finding = seekSheet(s);
        if (finding != FREE) {
            return tell(finding);
        }
        if (!areTwoPurses(from, to)) {
            return tell(BEYOND);
        }
        trial.become(land);
        for (int i = 0; i < sheets[s].size; i++) {
            int v = sheets[s].numbers[i];
            if (!isWithin(v, MOST_PRICE) || !trades.findPayment(trial, from, to, v)) {
                return 1 + i;
            }
            trial.exchange(trades.given, to, trades.back, from);
        }
        return 0;
    }

    // ---- images

    public int image() {
        kept.become(land);
        isKept = true;
        return 1;
    }

    public int undo() {
        if (!isKept) {
            return tell(NONE);
        }
        land.become(kept);
        return land.day;
    }

    public int tear() {
        int before = isKept ? 1 : 0;
        isKept = false;
        return before;
    }

    public int count(int what) {
        switch (what) {
            case 0: return land.day;
            case 1: return land.coinCount;
            case 2: return land.worthOf(land.allCoins());
            case 3: return land.turnsOfAll();
            case 4: return land.coinsLying(KING_UP);
            case 5: return tapeLength;
            case 6: return land.z;
            case 7: return land.spotsHeld();
            default: return tell(BEYOND);
        }
    }

    public int status(int which) {
        if (which < -1 || which >= FINDINGS) {
            return tell(BEYOND);
        }
        if (which >= 0) {
            return found[which];
        }
        int all = 0;
        for (int i = 0; i < FINDINGS; i++) {
            all += found[i];
        }
        return all;
    }

    // ---- findings

    /** Every finding is answered through here, as status() counts them. */
    private int tell(int finding) {
        int which = BEYOND - finding;
        if (isWithin(which, FINDINGS - 1)) {
            found[which]++;
        }
        return finding;
    }

    /** Lets trades hold the payment that costs least; FREE, or why there is none. */
    private int seekPayment(int from, int to, int v) {
        if (!areTwoPurses(from, to) || !isWithin(v, MOST_PRICE)) {
            return BEYOND;
        }
        return trades.findPayment(land, from, to, v) ? FREE : NONE;
    }

    /** Lets trades hold the change that gains most; FREE, or why there is none. */
    private int seekChange(int one, int other) {
        if (!areTwoPurses(one, other)) {
            return BEYOND;
        }
        return trades.findChange(land, one, other) ? FREE : NONE;
    }

    private int seekSheet(int s) {
        if (!isSheet(s)) {
            return BEYOND;
        }
        return sheets[s].isMissing() ? MISSING : FREE;
    }

    private static boolean isWithin(int v, int most) {
        return v >= 0 && v <= most;
    }

    private static boolean isPurse(int p) {
        return isWithin(p, PURSES - 1);
    }

    private static boolean areTwoPurses(int one, int other) {
        return isPurse(one) && isPurse(other) && one != other;
    }

    private static boolean isSheet(int s) {
        return isWithin(s, SHEETS - 1);
    }

    /** The most that change() may set; below 0, if it sets no such thing. */
    private static int mostOf(int what) {
        switch (what) {
            case 0: return KINDS - 1;
            case 1: return PURSES - 1;
            case 2: return MOST_FACE;
            case 3: return MOST_FACE;
            case 4: return SHIP_UP;
            default: return -1;
        }
    }

    private static boolean holds(int set, int coin) {
        return (set >> coin & 1) == 1;
    }

    private static final class Coin {
        int kind = COIN;
        int purse = 0;
        int king = 0;
        int ship = 0;
        int lies = KING_UP;
        int turns = 0;

        void become(Coin other) {
            kind = other.kind;
            purse = other.purse;
            king = other.king;
            ship = other.ship;
            lies = other.lies;
            turns = other.turns;
        }

        /** Sets what change() names: what it was. */
        int replace(int what, int v) {
            int before;
            switch (what) {
                case 0: before = kind; kind = v; break;
                case 1: before = purse; purse = v; break;
                case 2: before = king; king = v; break;
                case 3: before = ship; ship = v; break;
                default: before = lies; lies = v; break;
            }
            return before;
        }

        int worthNow() {
            return worthIf(kind, lies, turns, purse);
        }

        int worthOtherWay() {
            return worthIf(kind, SHIP_UP - lies, turns, purse);
        }

        int worthAs(int otherKind) {
            return worthIf(otherKind, lies, turns, purse);
        }

        int worthPaidTo(int where) {
            return worthIf(kind, liesTurned(), turnsTurned(), where);
        }

        private int worthIf(int asKind, int side, int turned, int where) {
            int face = side == KING_UP ? king : ship;
            switch (asKind) {
                case HEAVY:
                case TWICE:
                    return face + 1;
                case FORGED:
                    return king;
                case WORN:
                    return Math.max(0, face - turned);
                case FOREIGN:
                    int worn = Math.max(0, face - turned);
                    return where == HOME_OF_FOREIGN ? worn : worn / 2;
                default:
                    return face;
            }
        }

        private int liesTurned() {
            return kind == EDGED || kind == FORGED || kind == TWICE ? lies : SHIP_UP - lies;
        }

        private int turnsTurned() {
            switch (kind) {
                case EDGED:
                case FORGED:
                    return turns;
                case TWICE:
                    return turns + 2;
                default:
                    return turns + 1;
            }
        }

        void turnOver() {
            int side = liesTurned();
            turns = turnsTurned();
            lies = side;
        }

        void payTo(int where) {
            turnOver();
            purse = where;
        }

        boolean isA(int wanted) {
            int at = kind;
            for (int step = 0; step < KINDS && at >= 0 && at < KINDS; step++) {
                if (at == wanted) {
                    return true;
                }
                at = ABOVE[at];
            }
            return false;
        }
    }

    /** All that an image keeps. */
    private static final class Land {
        final Coin[] coins = new Coin[COINS];
        final int[] spots = new int[SPOTS];
        int coinCount = 0;
        int day = 0;
        int z = 1;

        Land() {
            for (int c = 0; c < COINS; c++) {
                coins[c] = new Coin();
            }
            Arrays.fill(spots, NOTHING);
        }

        void become(Land other) {
            for (int c = 0; c < other.coinCount; c++) {
                coins[c].become(other.coins[c]);
            }
            System.arraycopy(other.spots, 0, spots, 0, SPOTS);
            coinCount = other.coinCount;
            day = other.day;
            z = other.z;
        }

        boolean hasCoin(int c) {
            return c >= 0 && c < coinCount;
        }

        boolean hasSet(int set) {
            return (set & ~allCoins()) == 0;
        }

        /** Asks for room ahead of it: below COINS coins. */
        int addCoin(int kind, int king, int ship) {
            Coin c = coins[coinCount];
            c.kind = kind;
            c.purse = 0;
            c.king = king;
            c.ship = ship;
            c.lies = KING_UP;
            c.turns = 0;
            coinCount++;
            return coinCount - 1;
        }

        int allCoins() {
            return (1 << coinCount) - 1;
        }

        int coinsIn(int purse) {
            int set = 0;
            for (int c = 0; c < coinCount; c++) {
                if (coins[c].purse == purse) {
                    set |= 1 << c;
                }
            }
            return set;
        }

        int coinsLying(int side) {
            int set = 0;
            for (int c = 0; c < coinCount; c++) {
                if (coins[c].lies == side) {
                    set |= 1 << c;
                }
            }
            return set;
        }

        int worthOf(int set) {
            int worth = 0;
            for (int c = 0; c < coinCount; c++) {
                if (holds(set, c)) {
                    worth += coins[c].worthNow();
                }
            }
            return worth;
        }

        int worthIfTurned(int set) {
            int worth = 0;
            for (int c = 0; c < coinCount; c++) {
                if (holds(set, c)) {
                    worth += coins[c].worthPaidTo(coins[c].purse);
                }
            }
            return worth;
        }

        void paySet(int set, int to) {
            for (int c = 0; c < coinCount; c++) {
                if (holds(set, c)) {
                    coins[c].payTo(to);
                }
            }
        }

        void exchange(int given, int to, int back, int from) {
            paySet(given, to);
            paySet(back, from);
        }

        int turnsOfAll() {
            int turns = 0;
            for (int c = 0; c < coinCount; c++) {
                turns += coins[c].turns;
            }
            return turns;
        }

        int spotsHeld() {
            int held = 0;
            for (int spot = 0; spot < SPOTS; spot++) {
                if (spots[spot] != NOTHING) {
                    held++;
                }
            }
            return held;
        }

        int draw() {
            z = z * 1103515245 + 12345;
            return z >>> 8;
        }

        /** How many coins lay with the ship up as they had to turn. */
        int passDays(int n) {
            int lay = 0;
            for (int i = 0; i < n; i++) {
                if (day % WEEK == 0) {
                    lay += turnShips();
                }
                day++;
            }
            return lay;
        }

        private int turnShips() {
            int lay = 0;
            for (int c = 0; c < coinCount; c++) {
                if (coins[c].lies == SHIP_UP) {
                    coins[c].turnOver();
                    lay++;
                }
            }
            return lay;
        }
    }

    /** Which sums some coins can make: bit s of a row stands for the sum s. */
    private static final class Reach {
        private static final int WORDS = MOST_SUM / 64 + 1;
        /** One flipped coin more outweighs every set by number. */
        private static final int FLIPPED = SETS;
        private static final int NO_FLIPS = (COINS + 1) * FLIPPED;

        /** Row d: the sums of the first d coins at hand. */
        private final long[][] rows = new long[COINS + 1][WORDS];
        private final long[] wanted = new long[WORDS];
        private boolean isPossible = true;
        /** Words of a row that matter; sums above them are let go. */
        private int width = WORDS;
        private final int[] numbers = new int[COINS];
        private final int[] asIs = new int[COINS];
        private final int[] otherWay = new int[COINS];
        private int size = 0;
        private int best = NO_FLIPS;

        /** Row 0 becomes the sums of all sets of some coins. */
        void gather(Land land, int coins) {
            width = WORDS;
            startRow();
            for (int c = 0; c < land.coinCount; c++) {
                if (holds(coins, c)) {
                    spread(rows[0], rows[0], land.coins[c].worthNow());
                }
            }
        }

        boolean isReached(int sum) {
            return isWithin(sum, MOST_SUM) && (rows[0][sum >> 6] >> (sum & 63) & 1) != 0;
        }

        int reachedCount() {
            int count = 0;
            for (int w = 0; w < WORDS; w++) {
                count += Long.bitCount(rows[0][w]);
            }
            return count;
        }

        int firstUnreached(int least) {
            int sum = least;
            while (sum <= MOST_SUM && isReached(sum)) {
                sum++;
            }
            return sum;
        }

        void wantNothing() {
            Arrays.fill(wanted, 0L);
            isPossible = true;
            width = 1;
        }

        void want(int sum) {
            if (!isWithin(sum, MOST_SUM)) {
                isPossible = false;
                return;
            }
            wanted[sum >> 6] |= 1L << (sum & 63);
            width = Math.max(width, (sum >> 6) + 1);
        }

        /** The fewest coins to lie the other way so that all that is wanted is a sum; -1 if it can't be. */
        int fewestFlips(Land land, int coins) {
            if (!isPossible) {
                return NOTHING;
            }
            size = 0;
            for (int c = 0; c < land.coinCount; c++) {
                if (holds(coins, c)) {
                    numbers[size] = c;
                    asIs[size] = land.coins[c].worthNow();
                    otherWay[size] = land.coins[c].worthOtherWay();
                    size++;
                }
            }
            startRow();
            best = NO_FLIPS;
            tryFlips(this, 0, 0);
            return best == NO_FLIPS ? NOTHING : best % FLIPPED;
        }

        /** Tries both sides of each coin from depth on; depth ends at size, which is COINS at most. */
        private static void tryFlips(Reach reach, int depth, int flips) {
            if (flips >= reach.best) {
                return;
            }
            if (depth >= reach.size || depth >= COINS) {
                if (reach.hasAllWanted(reach.rows[depth])) {
                    reach.best = flips;
                }
                return;
            }
            reach.spread(reach.rows[depth], reach.rows[depth + 1], reach.asIs[depth]);
            tryFlips(reach, depth + 1, flips);
            if (reach.otherWay[depth] != reach.asIs[depth]) {
                reach.spread(reach.rows[depth], reach.rows[depth + 1], reach.otherWay[depth]);
                tryFlips(reach, depth + 1, flips + FLIPPED + (1 << reach.numbers[depth]));
            }
        }

        private boolean hasAllWanted(long[] row) {
            for (int w = 0; w < width; w++) {
                if ((wanted[w] & ~row[w]) != 0L) {
                    return false;
                }
            }
            return true;
        }

        private void startRow() {
            Arrays.fill(rows[0], 0L);
            rows[0][0] = 1L;
        }

        /** Adds to the sums of a row those with one more coin; from above, as both rows may be one. */
        private void spread(long[] from, long[] to, int worth) {
            int words = worth >> 6;
            int bits = worth & 63;
            for (int w = width - 1; w >= 0; w--) {
                long more = 0L;
                int low = w - words;
                if (low >= 0) {
                    more = from[low] << bits;
                }
                if (low >= 1 && bits > 0) {
                    more |= from[low - 1] >>> (64 - bits);
                }
                to[w] = from[w] | more;
            }
        }
    }

    /** Looks through all sets of some coins for payments and changes. */
    private static final class Trades {
        /** Above every rank that a pair of sets can have. */
        private static final long NO_RANK = 1L << 60;
        private static final int MOST_GAIN = 2 * MOST_SUM;

        /** All sets of the coins at hand, by number, and the total of each. */
        private final int[] sets = new int[SETS];
        private final int[] totals = new int[SETS];
        private int setCount = 0;
        /** Of each coin what it adds to a set's total. */
        private final int[] each = new int[COINS];
        /** Of each coin what one purse loses as it changes purses (below 0: what it gains), and the other one. */
        private final int[] loss = new int[COINS];
        private final int[] otherLoss = new int[COINS];
        int given = 0;
        int back = 0;
        /** The cost of a payment, or what a change gains. */
        int amount = 0;

        int leastSetWorth(Land land, int coins, int v) {
            for (int c = 0; c < land.coinCount; c++) {
                each[c] = land.coins[c].worthNow();
            }
            listSets(coins);
            for (int i = 0; i < setCount; i++) {
                if (totals[i] == v) {
                    return sets[i];
                }
            }
            return NOTHING;
        }

        /** How many ways some coins can lie in that are worth v or more. */
        int waysWorth(Land land, int coins, int v) {
            for (int c = 0; c < land.coinCount; c++) {
                each[c] = land.coins[c].worthOtherWay() - land.coins[c].worthNow();
            }
            listSets(coins);
            int missing = v - land.worthOf(coins);
            int ways = 0;
            for (int i = 0; i < setCount; i++) {
                if (totals[i] >= missing) {
                    ways++;
                }
            }
            return ways;
        }

        int fewestCoins(Land land, int from, int to, int v) {
            weigh(land, from, to);
            int fewest = COINS + 1;
            for (int i = 0; i < setCount; i++) {
                if (totals[i] == v) {
                    fewest = Math.min(fewest, Integer.bitCount(sets[i]));
                }
            }
            return fewest <= COINS ? fewest : NOTHING;
        }

        /** Whether there is a payment; given, back and amount (its cost) are those of the best one then. */
        boolean findPayment(Land land, int from, int to, int v) {
            weigh(land, from, to);
            int mine = land.coinsIn(from);
            long best = NO_RANK;
            for (int i = 0; i < setCount; i++) {
                if (totals[i] == v) {
                    // Of two payments the better one has the lower rank: what counts first stands highest in it.
                    long rank = (totalOf(loss, sets[i]) + MOST_SUM) * 16L + Integer.bitCount(sets[i]);
                    best = Math.min(best, withSets(rank, sets[i] & mine, sets[i] & ~mine));
                }
            }
            if (best == NO_RANK) {
                return false;
            }
            takeSets(best);
            amount = totalOf(loss, given | back);
            return true;
        }

        /** Whether there is a change that gains; given, back and amount (the gain) are those of the best one then. */
        boolean findChange(Land land, int one, int other) {
            weigh(land, one, other);
            int mine = land.coinsIn(one);
            long best = NO_RANK;
            for (int i = 0; i < setCount; i++) {
                int gained = totals[i] == 0 ? gainOf(sets[i]) : 0;
                if (gained > 0) {
                    best = Math.min(best, withSets(MOST_GAIN - gained, sets[i] & mine, sets[i] & ~mine));
                }
            }
            if (best == NO_RANK) {
                return false;
            }
            takeSets(best);
            amount = gainOf(given | back);
            return true;
        }

        /** What both gain if the coins of a set change purses; 0 if it leaves one less. */
        private int gainOf(int set) {
            int oneLoses = totalOf(loss, set);
            int otherLoses = totalOf(otherLoss, set);
            return oneLoses > 0 || otherLoses > 0 ? 0 : -oneLoses - otherLoses;
        }

        private static long withSets(long rank, int given, int back) {
            return (rank * SETS + given) * SETS + back;
        }

        private void takeSets(long rank) {
            given = (int) (rank / SETS % SETS);
            back = (int) (rank % SETS);
        }

        /** Lists the sets of the coins of two purses: a total is what is given less what comes back. */
        private void weigh(Land land, int from, int to) {
            int coins = 0;
            for (int c = 0; c < land.coinCount; c++) {
                Coin coin = land.coins[c];
                int worth = coin.worthNow();
                if (coin.purse == from) {
                    coins |= 1 << c;
                    each[c] = worth;
                    loss[c] = worth;
                    otherLoss[c] = -coin.worthPaidTo(to);
                } else if (coin.purse == to) {
                    coins |= 1 << c;
                    each[c] = -worth;
                    loss[c] = -coin.worthPaidTo(from);
                    otherLoss[c] = worth;
                }
            }
            listSets(coins);
        }

        /** Each coin doubles the sets: those without it, then those with it, so they stay in the order of numbers. */
        private void listSets(int coins) {
            sets[0] = 0;
            totals[0] = 0;
            setCount = 1;
            for (int c = 0; c < COINS; c++) {
                if (holds(coins, c)) {
                    for (int i = 0; i < setCount; i++) {
                        sets[setCount + i] = sets[i] | 1 << c;
                        totals[setCount + i] = totals[i] + each[c];
                    }
                    setCount *= 2;
                }
            }
        }

        private static int totalOf(int[] row, int set) {
            int total = 0;
            for (int c = 0; c < COINS; c++) {
                if (holds(set, c)) {
                    total += row[c];
                }
            }
            return total;
        }
    }

    /** Reads a text, token by token, into a land. */
    private static final class Reader {
        private static final int END = 0;
        private static final int WORD = 1;
        private static final int NUMBER = 2;
        private static final int SIGN = 3;
        private static final int NO_TOKEN = 4;
        /** Above every number that may stand in a text. */
        private static final int TOO_MUCH = 1000;

        private int[] bytes = new int[0];
        private int length = 0;
        /** The token at hand: its sort, its first place, the one behind it, what a number tells. */
        private int sort = END;
        private int start = 0;
        private int behind = 0;
        private int value = 0;

        /** How many items came into the land; or -1 less the fault, and the land is of no use then. */
        int readText(int[] tape, int tapeLength, Land land) {
            bytes = tape;
            length = Math.min(tapeLength, tape.length);
            behind = 0;
            for (int items = 1; items <= TAPE; items++) {
                step();
                if (!readItem(land) || (sort != SIGN && sort != END)) {
                    return -1 - start;
                }
                if (sort == END) {
                    return items;
                }
            }
            return -1 - start;
        }

        /** Each part of a text is read with its first token at hand, and leaves that behind it, or the wrong one. */
        private boolean readItem(Land land) {
            for (int kind = 0; kind < KINDS; kind++) {
                if (isWord(nameOf(kind))) {
                    return readCoin(land, kind);
                }
            }
            return isWord("pay") && readPay(land);
        }

        private boolean readCoin(Land land, int kind) {
            if (land.coinCount >= COINS) {
                return false;
            }
            step();
            if (!isNumber(MOST_FACE)) {
                return false;
            }
            int king = value;
            step();
            if (!isNumber(MOST_FACE)) {
                return false;
            }
            Coin coin = land.coins[land.addCoin(kind, king, value)];
            step();
            if (isWord("in")) {
                step();
                if (!isNumber(PURSES - 1)) {
                    return false;
                }
                coin.purse = value;
                step();
            }
            if (isWord("ship")) {
                coin.lies = SHIP_UP;
                step();
            }
            return true;
        }

        private boolean readPay(Land land) {
            step();
            if (!isNumber(land.coinCount - 1)) {
                return false;
            }
            Coin coin = land.coins[value];
            step();
            if (!isWord("to")) {
                return false;
            }
            step();
            if (!isNumber(PURSES - 1) || value == coin.purse) {
                return false;
            }
            coin.payTo(value);
            step();
            return true;
        }

        private boolean isNumber(int most) {
            return sort == NUMBER && value <= most;
        }

        private boolean isWord(String word) {
            if (sort != WORD || behind - start != word.length()) {
                return false;
            }
            for (int i = 0; i < word.length(); i++) {
                if (bytes[start + i] != word.charAt(i)) {
                    return false;
                }
            }
            return true;
        }

        /** Goes on to the next token. */
        private void step() {
            start = behind;
            while (start < length && bytes[start] == ' ') {
                start++;
            }
            behind = start;
            value = 0;
            if (start >= length) {
                sort = END;
            } else if (isLetter(bytes[start])) {
                sort = WORD;
                while (behind < length && isLetter(bytes[behind])) {
                    behind++;
                }
            } else if (isDigit(bytes[start])) {
                sort = NUMBER;
                while (behind < length && isDigit(bytes[behind])) {
                    value = Math.min(TOO_MUCH, value * 10 + bytes[behind] - '0');
                    behind++;
                }
            } else {
                sort = bytes[start] == ';' ? SIGN : NO_TOKEN;
                behind++;
            }
        }

        private static boolean isLetter(int b) {
            return b >= 'a' && b <= 'z';
        }

        private static boolean isDigit(int b) {
            return b >= '0' && b <= '9';
        }

        private static String nameOf(int kind) {
            switch (kind) {
                case HEAVY: return "heavy";
                case EDGED: return "edged";
                case FORGED: return "forged";
                case TWICE: return "twice";
                case WORN: return "worn";
                case FOREIGN: return "foreign";
                default: return "coin";
            }
        }
    }

    /** A row of numbers; of 0 bits it is missing. */
    private static final class Sheet {
        final int[] numbers = new int[SHEET_NUMBERS];
        int bits = 0;
        int size = 0;

        boolean isMissing() {
            return bits == 0;
        }

        void clear(int newBits, int n) {
            bits = newBits;
            size = newBits == 0 ? 0 : n;
            Arrays.fill(numbers, 0);
        }

        void put(int i, int v) {
            if (bits == 8) {
                numbers[i] = (byte) v;
            } else if (bits == 16) {
                numbers[i] = (short) v;
            } else {
                numbers[i] = v;
            }
        }

        boolean hasRow(int first, int n) {
            return first >= 0 && n >= 0 && first <= size && n <= size - first;
        }
    }
}
