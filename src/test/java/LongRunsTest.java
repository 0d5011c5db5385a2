import java.lang.reflect.Method;
import java.util.ArrayList;
import java.util.Arrays;
import java.util.List;
import java.util.Random;

/** Rule 7 of LANGUAGE.md: no call ever throws or fails to end, for any arguments in any state, beyond 512 calls too. */
public final class LongRunsTest {
    private static final int RUNS = 12;
    private static final int CALLS = 30_000;
    private static final int[] ODD = {Integer.MIN_VALUE, Integer.MIN_VALUE + 1, -1000001, -65, -64, -33, -32, -2, -1, 7,
        10, 11, 31, 32, 33, 39, 40, 41, 60, 61, 63, 64, 99, 100, 119, 120, 121, 127, 128, 255, 256, 999, 1000, 1001,
        1023, 1024, 9999, 10000, 32767, 32768, 65535, 65536, 1 << 30, Integer.MAX_VALUE - 1, Integer.MAX_VALUE};
    /** Words for the tape, so that texts come about. */
    private static final String[] PIECES = {"coin", "heav", "y", "edge", "d", "forg", "ed", "twic", "e", "worn", "fore",
        "ign", "pay ", " to ", " in ", "ship", ";", " 0", " 3", " 9", " 99 ", "999", " ", "x"};

    private final Random random;
    private final TurningCoins coins = new TurningCoins();
    private final List<Method> calls = new ArrayList<>(Pair.face().values());

    private LongRunsTest(int seed) {
        random = new Random(seed);
    }

    public static void main(String[] args) {
        boolean isRight = true;
        for (int seed = 0; seed < RUNS && isRight; seed++) {
            isRight = new LongRunsTest(seed).ends(seed % 3);
        }
        System.out.println(isRight ? "no call throws" : "a call throws");
        System.exit(isRight ? 0 : 1);
    }

    /** Asks call by call; the wilder, the more odd arguments. */
    private boolean ends(int wild) {
        for (int i = 0; i < CALLS; i++) {
            Method method = calls.get(random.nextInt(calls.size()));
            Object[] arguments = new Object[method.getParameterCount()];
            for (int k = 0; k < arguments.length; k++) {
                arguments[k] = random.nextInt(10) < 3 * wild ? odd() : random.nextInt(random.nextBoolean() ? 4 : 41);
            }
            if (method.getName().equals("feed") && random.nextInt(4) > 0) {
                String piece = PIECES[random.nextInt(PIECES.length)];
                arguments[0] = bytesOf(piece);
                arguments[1] = piece.length();
            }
            try {
                method.invoke(coins, arguments);
            } catch (ReflectiveOperationException fault) {
                System.out.println(method.getName() + Arrays.toString(arguments) + ": " + fault.getCause());
                return false;
            }
        }
        return true;
    }

    private int odd() {
        return random.nextInt(8) == 0 ? random.nextInt() : ODD[random.nextInt(ODD.length)];
    }

    private static int bytesOf(String piece) {
        int bytes = 0;
        for (int i = 0; i < piece.length(); i++) {
            bytes = bytes << 8 | piece.charAt(i);
        }
        return bytes;
    }
}
