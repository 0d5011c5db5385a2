import java.lang.reflect.Method;
import java.util.ArrayList;
import java.util.List;
import java.util.Random;

/** Random runs of up to 512 calls, each call asked of the class and of the model. */
public final class RandomRunsTest {
    private static final int RUNS = 400;
    private static final int CALLS = 512;
    private static final String[] WORDS = {"coin", "heavy", "edged", "forged", "twice", "worn", "foreign", "pay", "to",
        "in", "ship", ";", "0", "1", "2", "3", "9", "10", "99", "100", "1000", " ", "x", "A"};
    private static final int[] ODD = {-1, -2, Integer.MAX_VALUE, Integer.MIN_VALUE, 4, 7, 10, 11, 40, 41, 60, 61, 99,
        100, 999, 1000, 9999, 10000, 1023, 1024, -1000001};

    private final Random random;
    private final Pair pair = new Pair();
    private final Model model = pair.model;
    private final List<Method> calls = new ArrayList<>(Pair.face().values());
    /** How high faces of coins go in this run: low ones make many like sums. */
    private final int faces;
    private final boolean isWild;

    private RandomRunsTest(int seed) {
        random = new Random(seed);
        faces = new int[] {3, 8, 20, 99}[seed % 4];
        isWild = seed % 5 == 0;
    }

    public static void main(String[] args) throws ReflectiveOperationException {
        int wrong = 0;
        for (int seed = 0; seed < RUNS && wrong < 3; seed++) {
            RandomRunsTest run = new RandomRunsTest(seed);
            if (!run.agrees()) {
                wrong++;
                System.out.println("run " + seed + ":\n" + run.pair.told());
            }
        }
        System.out.println(wrong == 0 ? "all runs agree" : "runs do not agree");
        System.exit(wrong == 0 ? 0 : 1);
    }

    private boolean agrees() throws ReflectiveOperationException {
        int start = random.nextInt(11);
        int done = 0;
        for (int i = 0; i < start; i++, done++) {
            if (!ask("coin", random.nextInt(7), face(), face())) return false;
            if (!ask("change", i, 1, random.nextInt(random.nextInt(4) + 1))) return false;
            if (!ask("change", i, 4, random.nextInt(2))) return false;
        }
        while (done < CALLS - 40) {
            int picked = random.nextInt(20);
            if (picked == 0) {
                if (!feedText()) return false;
                done += 30;
            } else if (picked == 1) {
                if (!fillSheet()) return false;
                done += 6;
            } else {
                Method method = calls.get(random.nextInt(calls.size()));
                if (!ask(method.getName(), arguments(method))) return false;
                done++;
            }
        }
        return true;
    }

    private int face() {
        return random.nextInt(faces + 1);
    }

    private boolean ask(String name, int... arguments) throws ReflectiveOperationException {
        return pair.ask(name, arguments);
    }

    private int[] arguments(Method method) {
        int[] row = new int[method.getParameterCount()];
        for (int i = 0; i < row.length; i++) {
            row[i] = random.nextInt(isWild ? 6 : 25) == 0 ? ODD[random.nextInt(ODD.length)] : usual(method.getName(), i);
        }
        return row;
    }

    /** An argument that mostly makes sense there. */
    private int usual(String name, int i) {
        int coin = random.nextInt(Math.max(1, model.coinsNow().size()));
        switch (name + i) {
            case "coin0": case "as1": return random.nextInt(7);
            case "coin1": case "coin2": return face();
            case "of0": case "change0": case "turn0": case "round0": case "kindFor0": case "hold1": return coin;
            case "of1": return random.nextInt(7);
            case "change1": return random.nextInt(5);
            case "change2": return random.nextInt(random.nextBoolean() ? 4 : faces + 1);
            case "sum0": case "toss0": return random.nextInt(1 << model.coinsNow().size());
            case "pay2": return random.nextBoolean() ? random.nextInt(1 << model.coinsNow().size())
                : random.nextInt(1024) & model.purse(random.nextInt(4), 0);
            case "can1": case "with1": case "flip1": case "ways1": return random.nextInt(faces * 6 + 1);
            case "cost2": case "given2": case "back2": case "buy2": case "fewest2": return random.nextInt(faces * 2 + 1);
            case "days0": case "ahead1": return random.nextInt(12);
            case "market0": return random.nextInt(13);
            case "toss1": return random.nextInt(21);
            case "seed0": return random.nextInt();
            case "feed0": return random.nextInt();
            case "hold0": case "as0": return random.nextInt(10);
            case "sheet1": return 8 * random.nextInt(5);
            case "sheet2": return random.nextInt(8);
            case "write1": return random.nextInt(8);
            case "write2": return random.nextInt(random.nextBoolean() ? 3 : faces * 3 + 1);
            case "copy1": case "copy3": case "copy4": return random.nextInt(4);
            case "count0": case "status0": return random.nextInt(8);
            default: return random.nextInt(4);
        }
    }

    private boolean feedText() throws ReflectiveOperationException {
        StringBuilder text = new StringBuilder();
        int items = 1 + random.nextInt(5);
        for (int i = 0; i < items; i++) {
            text.append(i == 0 ? "" : random.nextBoolean() ? ";" : " ; ").append(item());
        }
        if (random.nextInt(3) == 0) {
            int place = random.nextInt(text.length() + 1);
            text.insert(place, WORDS[random.nextInt(WORDS.length)]);
        }
        if (random.nextInt(6) == 0) {
            text.deleteCharAt(random.nextInt(text.length()));
        }
        if (random.nextInt(6) == 0) {
            text.setLength(random.nextInt(text.length() + 1));
        }
        return ask("wipe") && pair.feed(text.toString(), 1 + random.nextInt(4)) && ask("text");
    }

    private String item() {
        if (random.nextInt(3) == 0) {
            return "pay " + random.nextInt(Math.max(1, model.coinsNow().size() + 1)) + " to " + random.nextInt(4);
        }
        String text = WORDS[random.nextInt(7)] + (random.nextBoolean() ? " " : "") + face() + " " + face();
        if (random.nextBoolean()) {
            text += (random.nextBoolean() ? " in " : "in") + random.nextInt(4);
        }
        return text + (random.nextBoolean() ? " ship" : "");
    }

    private boolean fillSheet() throws ReflectiveOperationException {
        int s = random.nextInt(4);
        int n = random.nextInt(6);
        if (!ask("sheet", s, 8 << random.nextInt(3), n)) return false;
        int most = random.nextInt(3) == 0 ? 2 : faces * 2 + 1;
        for (int i = 0; i < n; i++) {
            if (!ask("write", s, i, random.nextInt(most))) return false;
        }
        int one = random.nextInt(4);
        return ask("strike", s, random.nextInt(2)) && ask("judge", s, one, (one + 1 + random.nextInt(3)) % 4)
            && ask("load", s);
    }
}
