import java.util.ArrayList;
import java.util.Arrays;
import java.util.HashSet;
import java.util.List;
import java.util.Set;
import java.util.TreeSet;
import java.util.function.IntBinaryOperator;

/**
 * The document's words once more, as plainly and slowly as can be: every payment is done on a copy and looked at.
 * It shares no code with the class; random runs ask both.
 */
public final class Model {
    private static final int BEYOND = -1000001, FULL = -1000002, KIND = -1000003, NONE = -1000004, STATE = -1000005,
        MISSING = -1000006, SIZE = -1000007;
    private static final List<String> NAMES =
        List.of("coin", "heavy", "edged", "forged", "twice", "worn", "foreign");
    private static final int[] UP = {-1, 0, 0, 2, 1, 0, 5};

    record Coin(int kind, int purse, int king, int ship, int lies, int turns) {
        int worth() {
            int shown = lies == 0 ? king : ship;
            return switch (NAMES.get(kind)) {
                case "heavy", "twice" -> shown + 1;
                case "forged" -> king;
                case "worn" -> shown > turns ? shown - turns : 0;
                case "foreign" -> (shown > turns ? shown - turns : 0) / (purse == 3 ? 1 : 2);
                default -> shown;
            };
        }

        Coin over() {
            return switch (NAMES.get(kind)) {
                case "edged", "forged" -> this;
                case "twice" -> new Coin(kind, purse, king, ship, lies, turns + 2);
                default -> new Coin(kind, purse, king, ship, 1 - lies, turns + 1);
            };
        }

        Coin in(int where) {
            return new Coin(kind, where, king, ship, lies, turns);
        }

        Coin lying(int side) {
            return new Coin(kind, purse, king, ship, side, turns);
        }

        Coin as(int other) {
            return new Coin(other, purse, king, ship, lies, turns);
        }
    }

    record Image(List<Coin> coins, int[] spots, int day, int z) { }

    record Payment(int given, int back, int cost, int oneMore, int otherMore) { }

    private List<Coin> coins = new ArrayList<>();
    private int[] spots = new int[10];
    private int day = 0;
    private int z = 1;
    private final List<Integer> tape = new ArrayList<>();
    private final int[][] sheets = new int[4][];
    private final int[] bits = new int[4];
    private final List<Integer> findings = new ArrayList<>();
    private Image image = null;

    public Model() {
        Arrays.fill(spots, -1);
    }

    private int no(int finding) {
        findings.add(finding);
        return finding;
    }

    private boolean isCoin(int c) {
        return c >= 0 && c < coins.size();
    }

    private static boolean range(int v, int low, int high) {
        return low <= v && v <= high;
    }

    private static boolean purses(int a, int b) {
        return range(a, 0, 3) && range(b, 0, 3) && a != b;
    }

    private static List<Integer> members(int set) {
        List<Integer> list = new ArrayList<>();
        for (int i = 0; i < 32; i++) {
            if ((set & 1 << i) != 0) {
                list.add(i);
            }
        }
        return list;
    }

    private static int setOf(List<Coin> all, int purse) {
        int set = 0;
        for (int i = 0; i < all.size(); i++) {
            set += all.get(i).purse() == purse ? 1 << i : 0;
        }
        return set;
    }

    private static int sumOf(List<Coin> all, int set) {
        int sum = 0;
        for (int i : members(set)) {
            sum += all.get(i).worth();
        }
        return sum;
    }

    private static int sumIn(List<Coin> all, int purse) {
        return sumOf(all, setOf(all, purse));
    }

    private static List<Integer> subsets(int set) {
        List<Integer> list = new ArrayList<>();
        for (int s = 0; s <= set; s++) {
            if ((s & ~set) == 0) {
                list.add(s);
            }
        }
        return list;
    }

    private static List<Coin> paid(List<Coin> all, int set, int to) {
        List<Coin> after = new ArrayList<>(all);
        for (int i : members(set)) {
            after.set(i, all.get(i).over().in(to));
        }
        return after;
    }

    private static List<Coin> flipped(List<Coin> all, int set) {
        List<Coin> after = new ArrayList<>(all);
        for (int i : members(set)) {
            after.set(i, all.get(i).lying(1 - all.get(i).lies()));
        }
        return after;
    }

    private static Set<Integer> sumsOf(List<Coin> all, int purse) {
        Set<Integer> found = new HashSet<>(List.of(0));
        for (int i : members(setOf(all, purse))) {
            Set<Integer> more = new HashSet<>(found);
            for (int sum : found) {
                more.add(sum + all.get(i).worth());
            }
            found = more;
        }
        return found;
    }

    /** All payments of v, in the order of given, then back. */
    private static List<Payment> paymentsOf(List<Coin> all, int from, int to, int v) {
        List<Payment> list = new ArrayList<>();
        for (int given : subsets(setOf(all, from))) {
            int worth = sumOf(all, given);
            for (int back : subsets(setOf(all, to))) {
                if (worth - sumOf(all, back) == v) {
                    List<Coin> after = paid(paid(all, given, to), back, from);
                    int oneMore = sumIn(after, from) - sumIn(all, from);
                    list.add(new Payment(given, back, -oneMore, oneMore, sumIn(after, to) - sumIn(all, to)));
                }
            }
        }
        return list;
    }

    private static int coinsOf(Payment p) {
        return Integer.bitCount(p.given()) + Integer.bitCount(p.back());
    }

    private static Payment cheapest(List<Coin> all, int from, int to, int v) {
        Payment best = null;
        for (Payment p : paymentsOf(all, from, to, v)) {
            if (best == null || p.cost() < best.cost() || p.cost() == best.cost() && coinsOf(p) < coinsOf(best)) {
                best = p;
            }
        }
        return best;
    }

    private static Payment bestChange(List<Coin> all, int one, int other) {
        Payment best = null;
        for (Payment p : paymentsOf(all, one, other, 0)) {
            int gain = p.oneMore() + p.otherMore();
            if (p.oneMore() >= 0 && p.otherMore() >= 0 && gain > 0
                && (best == null || gain > best.oneMore() + best.otherMore())) {
                best = p;
            }
        }
        return best;
    }

    private static List<Coin> done(List<Coin> all, Payment p, int from, int to) {
        return paid(paid(all, p.given(), to), p.back(), from);
    }

    public int coin(int kind, int king, int ship) {
        if (!range(kind, 0, 6) || !range(king, 0, 99) || !range(ship, 0, 99)) return no(BEYOND);
        if (coins.size() == 10) return no(FULL);
        coins.add(new Coin(kind, 0, king, ship, 0, 0));
        return coins.size() - 1;
    }

    public int of(int coin, int what) {
        if (!isCoin(coin) || !range(what, 0, 6)) return no(BEYOND);
        Coin c = coins.get(coin);
        return new int[] {c.kind(), c.purse(), c.king(), c.ship(), c.lies(), c.turns(), c.worth()}[what];
    }

    public int change(int coin, int what, int v) {
        if (!isCoin(coin) || !range(what, 0, 4)) return no(BEYOND);
        if (!range(v, 0, new int[] {6, 3, 99, 99, 1}[what])) return no(BEYOND);
        Coin c = coins.get(coin);
        int[] is = {c.kind(), c.purse(), c.king(), c.ship(), c.lies()};
        int was = is[what];
        is[what] = v;
        coins.set(coin, new Coin(is[0], is[1], is[2], is[3], is[4], c.turns()));
        return was;
    }

    public int turn(int coin) {
        if (!isCoin(coin)) return no(BEYOND);
        coins.set(coin, coins.get(coin).over());
        return coins.get(coin).worth();
    }

    public int purse(int purse, int what) {
        if (!range(purse, 0, 3) || !range(what, 0, 3)) return no(BEYOND);
        int set = setOf(coins, purse);
        if (what == 0) return set;
        if (what == 1) return sumOf(coins, set);
        if (what == 3) return sumIn(paid(coins, set, purse), purse);
        int ships = 0;
        for (int i : members(set)) {
            ships |= coins.get(i).lies() << i;
        }
        return ships;
    }

    private boolean isSet(int set) {
        for (int i : members(set)) {
            if (!isCoin(i)) return false;
        }
        return true;
    }

    public int sum(int set) {
        return isSet(set) ? sumOf(coins, set) : no(BEYOND);
    }

    public int pay(int from, int to, int set) {
        if (!purses(from, to) || !isSet(set)) return no(BEYOND);
        for (int i : members(set)) {
            if (coins.get(i).purse() != from) return no(STATE);
        }
        int sum = sumOf(coins, set);
        coins = paid(coins, set, to);
        return sum;
    }

    public int there(int from, int to) {
        if (!purses(from, to)) return no(BEYOND);
        int before = sumIn(coins, from);
        int set = setOf(coins, from);
        coins = paid(paid(coins, set, to), set, from);
        return sumIn(coins, from) - before;
    }

    public int can(int purse, int v) {
        if (!range(purse, 0, 3) || !range(v, 0, 999)) return no(BEYOND);
        return sumsOf(coins, purse).contains(v) ? 1 : 0;
    }

    public int with(int purse, int v) {
        if (!range(purse, 0, 3) || !range(v, 0, 999)) return no(BEYOND);
        for (int set : subsets(setOf(coins, purse))) {
            if (sumOf(coins, set) == v) return set;
        }
        return no(NONE);
    }

    public int sums(int purse) {
        return range(purse, 0, 3) ? sumsOf(coins, purse).size() : no(BEYOND);
    }

    public int cannot(int purse) {
        if (!range(purse, 0, 3)) return no(BEYOND);
        int v = 1;
        while (sumsOf(coins, purse).contains(v)) {
            v++;
        }
        return v;
    }

    private int asked(int from, int to, int v, IntBinaryOperator what) {
        if (!purses(from, to) || !range(v, 0, 999)) return no(BEYOND);
        Payment p = cheapest(coins, from, to, v);
        if (p == null) return no(NONE);
        return what.applyAsInt(p.given(), p.back());
    }

    public int cost(int from, int to, int v) {
        return asked(from, to, v, (given, back) ->
            sumIn(coins, from) - sumIn(paid(paid(coins, given, to), back, from), from));
    }

    public int given(int from, int to, int v) {
        return asked(from, to, v, (given, back) -> given);
    }

    public int back(int from, int to, int v) {
        return asked(from, to, v, (given, back) -> back);
    }

    public int buy(int from, int to, int v) {
        return asked(from, to, v, (given, back) -> {
            int before = sumIn(coins, from);
            coins = paid(paid(coins, given, to), back, from);
            return before - sumIn(coins, from);
        });
    }

    public int fewest(int from, int to, int v) {
        if (!purses(from, to) || !range(v, 0, 999)) return no(BEYOND);
        return paymentsOf(coins, from, to, v).stream().mapToInt(Model::coinsOf).min().orElseGet(() -> no(NONE));
    }

    public int dearth(int from, int to) {
        if (!purses(from, to)) return no(BEYOND);
        Set<Integer> differences = new HashSet<>();
        for (int mine : sumsOf(coins, from)) {
            for (int theirs : sumsOf(coins, to)) {
                differences.add(mine - theirs);
            }
        }
        for (int v = 1; v <= 999; v++) {
            if (!differences.contains(v)) return v;
        }
        return no(NONE);
    }

    public int gain(int one, int other) {
        if (!purses(one, other)) return no(BEYOND);
        Payment p = bestChange(coins, one, other);
        return p == null ? no(NONE) : p.oneMore() + p.otherMore();
    }

    public int lot(int one, int other) {
        if (!purses(one, other)) return no(BEYOND);
        Payment p = bestChange(coins, one, other);
        return p == null ? no(NONE) : p.given();
    }

    public int deal(int one, int other) {
        if (!purses(one, other)) return no(BEYOND);
        Payment p = bestChange(coins, one, other);
        if (p == null) return no(NONE);
        int before = sumIn(coins, one) + sumIn(coins, other);
        coins = done(coins, p, one, other);
        return sumIn(coins, one) + sumIn(coins, other) - before;
    }

    public int deals(int one, int other) {
        if (!purses(one, other)) return no(BEYOND);
        List<Coin> at = coins;
        for (int n = 0; n < 20; n++) {
            Payment p = bestChange(at, one, other);
            if (p == null) return n;
            at = done(at, p, one, other);
        }
        return 20;
    }

    public int partner(int p) {
        if (!range(p, 0, 3)) return no(BEYOND);
        int best = -1;
        int most = 0;
        for (int other = 0; other < 4; other++) {
            Payment change = other == p ? null : bestChange(coins, p, other);
            if (change != null && change.oneMore() + change.otherMore() > most) {
                most = change.oneMore() + change.otherMore();
                best = other;
            }
        }
        return best < 0 ? no(NONE) : best;
    }

    public int round(int coin, int other) {
        if (!isCoin(coin) || !purses(coins.get(coin).purse(), other)) return no(BEYOND);
        Coin first = coins.get(coin);
        Coin at = first;
        for (int n = 1; n <= 6; n++) {
            at = at.over().in(n % 2 == 1 ? other : first.purse());
            if (at.worth() > first.worth()) return n;
        }
        return no(NONE);
    }

    private int fewestFlips(int purse, List<Integer> wanted) {
        int best = -1;
        for (int flips : subsets(setOf(coins, purse))) {
            if (best >= 0 && Integer.bitCount(flips) >= Integer.bitCount(best)) continue;
            if (sumsOf(flipped(coins, flips), purse).containsAll(wanted)) {
                best = flips;
            }
        }
        return best < 0 ? no(NONE) : best;
    }

    public int flip(int purse, int v) {
        if (!range(purse, 0, 3) || !range(v, 0, 999)) return no(BEYOND);
        return fewestFlips(purse, List.of(v));
    }

    public int highest(int purse) {
        if (!range(purse, 0, 3)) return no(BEYOND);
        int most = 0;
        for (int flips : subsets(setOf(coins, purse))) {
            most = Math.max(most, sumIn(flipped(coins, flips), purse));
        }
        return most;
    }

    public int wrong() {
        int set = 0;
        for (int i = 0; i < coins.size(); i++) {
            set |= flipped(coins, 1 << i).get(i).worth() > coins.get(i).worth() ? 1 << i : 0;
        }
        return set;
    }

    public int ways(int purse, int v) {
        if (!range(purse, 0, 3) || !range(v, 0, 9999)) return no(BEYOND);
        int ways = 0;
        for (int flips : subsets(setOf(coins, purse))) {
            ways += sumIn(flipped(coins, flips), purse) >= v ? 1 : 0;
        }
        return ways;
    }

    public int kindFor(int coin) {
        if (!isCoin(coin)) return no(BEYOND);
        int best = 6;
        for (int kind = 6; kind >= 0; kind--) {
            if (coins.get(coin).as(kind).worth() >= coins.get(coin).as(best).worth()) {
                best = kind;
            }
        }
        return best;
    }

    private static int week(List<Coin> all, int from, int n) {
        int lay = 0;
        for (int d = from; d < from + n; d++) {
            for (int i = 0; d % 7 == 0 && i < all.size(); i++) {
                if (all.get(i).lies() == 1) {
                    lay++;
                    all.set(i, all.get(i).over());
                }
            }
        }
        return lay;
    }

    public int days(int n) {
        if (!range(n, 1, 60)) return no(BEYOND);
        if (day + n > 999) return no(STATE);
        coins = new ArrayList<>(coins);
        int lay = week(coins, day, n);
        day += n;
        return lay;
    }

    public int ahead(int purse, int n) {
        if (!range(purse, 0, 3) || !range(n, 0, 60)) return no(BEYOND);
        if (day + n > 999) return no(STATE);
        List<Coin> later = new ArrayList<>(coins);
        week(later, day, n);
        return sumIn(later, purse);
    }

    private int draw() {
        z = z * 1103515245 + 12345;
        return z >>> 8;
    }

    public int market(int n) {
        if (!range(n, 1, 12)) return no(BEYOND);
        if (coins.isEmpty()) return no(STATE);
        for (int i = 0; i < n; i++) {
            int c = draw() % coins.size();
            int to = draw() % 4;
            if (coins.get(c).purse() != to) {
                coins = paid(coins, 1 << c, to);
            }
        }
        return sumIn(coins, 0);
    }

    public int toss(int set, int n) {
        if (!isSet(set) || !range(n, 0, 20)) return no(BEYOND);
        int kings = 0;
        for (int i = 0; i < n; i++) {
            for (int c : members(set)) {
                kings += c >= 0 && (draw() & 1) == 0 ? 1 : 0;
            }
        }
        return kings;
    }

    public int seed(int v) {
        int was = z;
        z = v;
        return was;
    }

    public int feed(int bytes, int n) {
        if (!range(n, 1, 4)) return no(BEYOND);
        if (tape.size() + n > 120) return no(FULL);
        for (int i = n; i > 0; i--) {
            tape.add((int) ((bytes & 0xffffffffL) >> 8 * (i - 1)) & 0xff);
        }
        return tape.size();
    }

    public int wipe() {
        int had = tape.size();
        tape.clear();
        return had;
    }

    public int text() {
        StringBuilder all = new StringBuilder();
        for (int b : tape) {
            all.append((char) b);
        }
        tape.clear();
        List<Coin> before = coins;
        coins = new ArrayList<>(coins);
        int answer = new ModelText(all.toString(), this).read();
        if (answer < 0) {
            coins = before;
        }
        return answer;
    }

    List<Coin> coinsNow() {
        return coins;
    }

    static int kindOf(String word) {
        return NAMES.indexOf(word);
    }

    public int hold(int spot, int coin) {
        if (!range(spot, 0, 9) || !range(coin, -1, coins.size() - 1)) return no(BEYOND);
        spots[spot] = coin;
        return 1;
    }

    public int as(int spot, int kind) {
        if (!range(spot, 0, 9) || !range(kind, 0, 6)) return no(BEYOND);
        if (spots[spot] < 0) return no(MISSING);
        Set<Integer> kinds = new TreeSet<>();
        for (int k = coins.get(spots[spot]).kind(); k >= 0; k = UP[k]) {
            kinds.add(k);
        }
        return kinds.contains(kind) ? spots[spot] : no(KIND);
    }

    public int sheet(int s, int width, int n) {
        if (!range(s, 0, 3) || !List.of(0, 8, 16, 32).contains(width)) return no(BEYOND);
        if (n < 0) return no(SIZE);
        if (n > 40) return no(BEYOND);
        bits[s] = width;
        sheets[s] = width == 0 ? null : new int[n];
        return width == 0 ? 0 : n;
    }

    private int sheetFinding(int s) {
        return !range(s, 0, 3) ? BEYOND : sheets[s] == null ? MISSING : 0;
    }

    public int write(int s, int i, int v) {
        if (sheetFinding(s) != 0) return no(sheetFinding(s));
        if (!range(i, 0, sheets[s].length - 1)) return no(BEYOND);
        sheets[s][i] = v << 32 - bits[s] >> 32 - bits[s];
        return 1;
    }

    public int copy(int s, int from, int t, int to, int n) {
        if (!range(s, 0, 3) || !range(t, 0, 3)) return no(BEYOND);
        if (sheets[s] == null || sheets[t] == null) return no(MISSING);
        if (bits[s] != bits[t]) return no(KIND);
        if (from < 0 || to < 0 || n < 0) return no(BEYOND);
        if ((long) from + n > sheets[s].length || (long) to + n > sheets[t].length) return no(BEYOND);
        int[] old = sheets[s].clone();
        for (int i = 0; i < n; i++) {
            sheets[t][to + i] = old[from + i];
        }
        return n;
    }

    public int load(int s) {
        if (sheetFinding(s) != 0) return no(sheetFinding(s));
        coins = new ArrayList<>(coins);
        int came = 0;
        for (int v : sheets[s]) {
            if (!range(v, 0, 1) || !isCoin(came)) break;
            coins.set(came, coins.get(came).lying(v));
            came++;
        }
        return came;
    }

    public int strike(int s, int purse) {
        if (sheetFinding(s) != 0) return no(sheetFinding(s));
        if (!range(purse, 0, 3)) return no(BEYOND);
        List<Integer> wanted = new ArrayList<>();
        for (int v : sheets[s]) {
            wanted.add(v);
        }
        return fewestFlips(purse, wanted);
    }

    public int judge(int s, int from, int to) {
        if (sheetFinding(s) != 0) return no(sheetFinding(s));
        if (!purses(from, to)) return no(BEYOND);
        List<Coin> at = coins;
        int can = 0;
        for (int v : sheets[s]) {
            Payment p = range(v, 0, 999) ? cheapest(at, from, to, v) : null;
            if (p == null) return 1 + can;
            at = done(at, p, from, to);
            can++;
        }
        return 0;
    }

    public int image() {
        image = new Image(List.copyOf(coins), spots.clone(), day, z);
        return 1;
    }

    public int undo() {
        if (image == null) return no(NONE);
        coins = new ArrayList<>(image.coins());
        spots = image.spots().clone();
        day = image.day();
        z = image.z();
        return day;
    }

    public int tear() {
        int was = image == null ? 0 : 1;
        image = null;
        return was;
    }

    public int count(int what) {
        int all = (1 << coins.size()) - 1;
        int kings = 0;
        for (int i = 0; i < coins.size(); i++) {
            kings |= coins.get(i).lies() == 0 ? 1 << i : 0;
        }
        return switch (what) {
            case 0 -> day;
            case 1 -> coins.size();
            case 2 -> sumOf(coins, all);
            case 3 -> coins.stream().mapToInt(Coin::turns).sum();
            case 4 -> kings;
            case 5 -> tape.size();
            case 6 -> z;
            case 7 -> (int) Arrays.stream(spots).filter(c -> c >= 0).count();
            default -> no(BEYOND);
        };
    }

    public int status(int which) {
        if (which == -1) return findings.size();
        if (!range(which, 0, 6)) return no(BEYOND);
        return (int) findings.stream().filter(f -> f == BEYOND - which).count();
    }
}
