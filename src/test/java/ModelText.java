import java.util.ArrayList;
import java.util.List;
import java.util.regex.Matcher;
import java.util.regex.Pattern;

/** The model's texts: all tokens are cut first, then taken one by one. */
final class ModelText {
    private static final Pattern TOKEN = Pattern.compile("[a-z]+|[0-9]+|[^ ]", Pattern.DOTALL);

    private static final class Fault extends RuntimeException {
        private static final long serialVersionUID = 1L;
        final int place;

        Fault(int place) {
            super(null, null, false, false);
            this.place = place;
        }
    }

    private final List<String> tokens = new ArrayList<>();
    private final List<Integer> places = new ArrayList<>();
    private final Model model;
    private int at = 0;

    ModelText(String text, Model model) {
        Matcher cut = TOKEN.matcher(text);
        while (cut.find()) {
            tokens.add(cut.group());
            places.add(cut.start());
        }
        tokens.add("");
        places.add(text.length());
        this.model = model;
    }

    int read() {
        try {
            int items = 0;
            do {
                item();
                items++;
            } while (took(";"));
            if (!tokens.get(at).isEmpty()) {
                fault();
            }
            return items;
        } catch (Fault fault) {
            return -1 - fault.place;
        }
    }

    private void fault() {
        throw new Fault(places.get(at));
    }

    private boolean took(String token) {
        if (!tokens.get(at).equals(token)) {
            return false;
        }
        at++;
        return true;
    }

    private int number(int below) {
        String token = tokens.get(at);
        if (!token.matches("[0-9]+") || new java.math.BigInteger(token).compareTo(java.math.BigInteger.valueOf(below)) >= 0) {
            fault();
        }
        at++;
        return Integer.parseInt(new java.math.BigInteger(token).toString());
    }

    private void item() {
        List<Model.Coin> coins = model.coinsNow();
        int kind = Model.kindOf(tokens.get(at));
        if (took("pay")) {
            int c = number(coins.size());
            if (!took("to")) {
                fault();
            }
            if (tokens.get(at).matches("0*" + coins.get(c).purse())) {
                fault();
            }
            coins.set(c, coins.get(c).over().in(number(4)));
            return;
        }
        if (kind < 0 || coins.size() == 10) {
            fault();
        }
        at++;
        int king = number(100);
        int ship = number(100);
        int purse = took("in") ? number(4) : 0;
        coins.add(new Model.Coin(kind, purse, king, ship, took("ship") ? 1 : 0, 0));
    }
}
