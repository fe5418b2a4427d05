import java.util.List;
import java.util.regex.Matcher;
import java.util.regex.Pattern;

/** Reads a text into a model's fen, as the document's paragraph 3 tells. */
final class ModelText {
    private static final List<String> KINDS = List.of("thing", "fish", "duck", "frog", "heron", "cork", "pike");
    private static final String[] TRAITS = {"shows", "size", "turned", "flipped", "ditch", "depth"};
    private static final int[] LEAST = {0, 1, 0, 0, 0, 0};
    private static final int[] MOST = {15, 9, 3, 1, 15, 99};
    private static final Pattern TOKEN = Pattern.compile("[a-z]+|[0-9]+|;|[^ ]", Pattern.DOTALL);

    final Model.Fen fen;
    private final Matcher tokens;
    private String token;
    private int place;
    private final int end;

    private static final class Fault extends Exception {
        private static final long serialVersionUID = 1;
    }

    ModelText(String tape, Model.Fen fen) {
        this.fen = fen;
        tokens = TOKEN.matcher(tape);
        end = tape.length();
        advance();
    }

    /** How many items, or -1 less the fault. */
    int read() {
        try {
            item();
            int items = 1;
            while (takes(";")) {
                item();
                items++;
            }
            if (!token.isEmpty()) {
                throw new Fault();
            }
            return items;
        } catch (Fault fault) {
            return -1 - place;
        }
    }

    private void advance() {
        boolean found = tokens.find();
        token = found ? tokens.group() : "";
        place = found ? tokens.start() : end;
    }

    private boolean takes(String word) {
        boolean isIt = token.equals(word);
        if (isIt) {
            advance();
        }
        return isIt;
    }

    private int number(int least, int most, int except) throws Fault {
        // A row of digits may be too much for an int; zeros ahead don't make it more.
        String digits = token.replaceFirst("^0+(?=[0-9])", "");
        if (!token.matches("[0-9]+") || digits.length() > 3) {
            throw new Fault();
        }
        int number = Integer.parseInt(digits);
        if (number < least || number > most || number == except) {
            throw new Fault();
        }
        advance();
        return number;
    }

    private void item() throws Fault {
        if (KINDS.contains(token)) {
            thing();
        } else if (takes("pond")) {
            pond(number(0, 15, -1));
        } else if (takes("rain")) {
            fen.rain = 1;
        } else if (takes("dry")) {
            fen.rain = 0;
        } else {
            throw new Fault();
        }
    }

    private void thing() throws Fault {
        if (fen.things.size() == 8) {
            throw new Fault();
        }
        int[] thing = {KINDS.indexOf(token), 0, 9};
        advance();
        thing[1] = takes("in") ? number(0, 15, -1) : 0;
        thing[2] = takes("long") ? number(1, 99, -1) : 9;
        fen.things.add(thing);
    }

    private void pond(int pond) throws Fault {
        for (int what = 0; what < TRAITS.length; what++) {
            if (takes(TRAITS[what])) {
                boolean isWhole = TRAITS[what].equals("flipped");
                fen.ponds[pond][what] = isWhole ? 1 : number(LEAST[what], MOST[what], what == 0 ? pond : -1);
            }
        }
    }
}
