import java.lang.reflect.Method;
import java.lang.reflect.Modifier;
import java.util.ArrayDeque;
import java.util.ArrayList;
import java.util.Arrays;
import java.util.Comparator;
import java.util.Deque;
import java.util.List;

/** Whole runs of 512 calls by draws, each answer as the model's; the first other one ends its run. */
public final class RunsTest {
    private static final int RUNS = 250;
    private static final int CALLS = 512;
    private static final Due due = new Due();
    private static final List<Method> FACE = face();

    // What each call's arguments may be at most, where that isn't told by one number for all.
    private static final String[] MOST = {
        "pond 15 7", "dig 15 5 17", "thing 6 15", "of 7 4", "change 7 2 16", "rain 1", "go 60", "now 4", "chain 15 16 3",
        "through 15 7", "upright 15", "large 15 16 7", "round 15", "before 15", "shownBy 15", "ahead 7 100", "comes 7 15",
        "seen 7 15", "meet 7 7", "cast 7 100", "kindFor 7", "fits 3 15", "lens 3 15", "which 3", "dredge 7 1", "watch 40",
        "falls 20", "odds 12 1", "seed 99999", "feed 99999 4", "hold 9 7", "as 9 6", "sheet 3 32 40", "write 3 39 20",
        "copy 3 9 3 9 9", "load 3", "judge 3", "count 7", "status 6", "rounds", "eyes", "wipe", "text", "image", "undo",
        "tear",
    };
    private static final int[] FAR = {Integer.MIN_VALUE, Integer.MAX_VALUE, -2, 100, 101, 255, 256, 65536};
    private static final String[] WORDS = {
        "thing", "fish", "duck", "frog", "heron", "cork", "pike", "in", "long", "pond", "shows", "size", "turned",
        "flipped", "ditch", "depth", "rain", "dry", ";", ";", " ", "5", "0", "15", "16", "99", "100", "1", "3", "00",
        "999", "1000", "fis", "fishy", "!", "F", "\t", "in3", "pond 3", "12x",
    };

    private final Fens draws;
    private final PondLenses lenses = new PondLenses();
    private final Model model = new Model();
    private final Deque<Call> ahead = new ArrayDeque<>();

    private record Call(String name, int... arguments) {
    }

    private RunsTest(int run) {
        draws = new Fens(50000 + run);
    }

    public static void main(String[] args) throws ReflectiveOperationException {
        due.is("a most for each call", FACE.size(), MOST.length);
        for (int run = 0; run < RUNS; run++) {
            new RunsTest(run).run(run);
        }
        due.end();
    }

    private static List<Method> face() {
        List<Method> face = new ArrayList<>();
        for (Method method : PondLenses.class.getDeclaredMethods()) {
            if (Modifier.isPublic(method.getModifiers())) {
                face.add(method);
            }
        }
        // They come in no order that is promised; the draws want always the same.
        face.sort(Comparator.comparing(Method::getName));
        return face;
    }

    private void run(int run) throws ReflectiveOperationException {
        if (run % 3 > 0) {
            makeFen();
        }
        for (int i = 0; i < CALLS; i++) {
            while (ahead.isEmpty()) {
                makeCalls();
            }
            Call call = ahead.poll();
            long got = answer(lenses, call);
            long want = answer(model, call);
            due.is("run " + run + ", call " + i + ": " + call.name + Arrays.toString(call.arguments), want, got);
            if (got != want) {
                return;
            }
        }
    }

    private static long answer(Object x, Call call) throws ReflectiveOperationException {
        Class<?>[] types = new Class<?>[call.arguments.length];
        Object[] arguments = new Object[call.arguments.length];
        for (int i = 0; i < types.length; i++) {
            types[i] = int.class;
            arguments[i] = call.arguments[i];
        }
        Method method = x.getClass().getDeclaredMethod(call.name, types);
        return ((Number) method.invoke(x, arguments)).longValue();
    }

    private void add(String name, int... arguments) {
        ahead.add(new Call(name, arguments));
    }

    private void makeFen() {
        int close = 1 + draws.draw(16);
        for (int pond = 0; pond < 16; pond++) {
            add("dig", pond, 0, draws.draw(close));
            add("dig", pond, 1, 1 + draws.draw(9));
            add("dig", pond, 2, draws.draw(4));
            add("dig", pond, 3, draws.draw(2));
            add("dig", pond, 4, draws.draw(16));
            add("dig", pond, 5, draws.draw(30));
        }
        int things = draws.draw(9);
        for (int i = 0; i < things; i++) {
            add("thing", draws.draw(7), draws.draw(16));
        }
    }

    private void makeCalls() {
        Method method = FACE.get(draws.draw(FACE.size()));
        String name = method.getName();
        boolean asksSheet = List.of("fits", "lens", "which", "judge", "load", "copy").contains(name);
        if (name.equals("text") || name.equals("feed") && draws.draw(3) == 0) {
            makeText();
        } else if (asksSheet && draws.draw(2) == 0) {
            makeSheet(name);
        } else if (!name.equals("tear") || draws.draw(2) == 0) {
            makeCall(method);
        }
    }

    private void makeCall(Method method) {
        int[] arguments = new int[method.getParameterCount()];
        for (String most : MOST) {
            String[] parts = most.split(" ");
            for (int i = 0; parts[0].equals(method.getName()) && i < arguments.length; i++) {
                arguments[i] = argument(Integer.parseInt(parts[i + 1]));
            }
        }
        if (method.getName().equals("sheet") && draws.draw(4) > 0) {
            arguments[1] = bits();
        }
        ahead.add(new Call(method.getName(), arguments));
    }

    private int argument(int most) {
        switch (draws.draw(30)) {
            case 0:
                return -1;
            case 1:
                return most;
            case 2:
                return most + 1;
            case 3:
                return FAR[draws.draw(FAR.length)];
            default:
                return draws.draw(most + 1);
        }
    }

    private int bits() {
        return new int[] {0, 8, 16, 32}[draws.draw(4)];
    }

    /** A sheet that tells what is so of the fen as it is, but for some numbers; then what asks it. */
    private void makeSheet(String name) {
        int s = draws.draw(4);
        int n = draws.draw(8) == 0 ? 40 : draws.draw(name.equals("load") ? 20 : 6);
        int pond = draws.draw(16);
        add("sheet", s, bits(), n);
        int[] told = told(name, pond, n);
        for (int i = 0; i < n; i++) {
            boolean isOther = draws.draw(20) == 0;
            add("write", s, i, isOther ? draws.draw(20) - 2 : told[i]);
        }
        switch (name) {
            case "copy":
                add(name, s, draws.draw(6), draws.draw(4), draws.draw(6), draws.draw(6));
                break;
            case "fits":
            case "lens":
                add(name, s, pond);
                break;
            default:
                add(name, s);
                break;
        }
    }

    private int[] told(String name, int pond, int n) {
        Model.Fen fen = model.fen.copy();
        boolean isLens = name.equals("fits") || name.equals("lens");
        fen.ponds[pond][0] = isLens ? (pond + 1 + draws.draw(15)) % 16 : fen.shown(pond);
        int things = fen.things.size();
        int thing = things == 0 ? -1 : draws.draw(things);
        int[] told = new int[n];
        int at = pond;
        for (int i = 0; i < n; i++) {
            told[i] = isLens ? fen.in(fen.shown(pond)) : thing < 0 ? -1 : fen.place(thing);
            told[i] = draws.draw(4) == 0 ? -1 : told[i];
            told[i] = name.equals("judge") ? at : name.equals("load") ? draws.draw(100) : told[i];
            at = fen.shown(at);
            fen.pass();
        }
        return told;
    }

    private void makeText() {
        StringBuilder text = new StringBuilder();
        if (draws.draw(4) == 0) {
            for (int words = draws.draw(9); words > 0; words--) {
                text.append(word()).append(draws.draw(3) > 0 ? " " : "");
            }
        } else {
            for (int items = 1 + draws.draw(5); items > 0; items--) {
                text.append(item()).append(items == 1 ? "" : draws.draw(2) == 0 ? ";" : " ; ");
            }
            if (draws.draw(4) == 0) {
                spoil(text);
            }
        }
        while (draws.draw(10) == 0 && text.length() < 123) {
            text.append(" ".repeat(draws.draw(40)));
        }
        int from = 0;
        while (from < text.length()) {
            int n = Math.min(1 + draws.draw(4), text.length() - from);
            // What is above the lowest bytes isn't for the tape.
            int bytes = -draws.draw(2);
            for (int i = 0; i < n; i++) {
                bytes = bytes << 8 | text.charAt(from + i);
            }
            add("feed", bytes, n);
            from += n;
        }
        add("text");
    }

    private void spoil(StringBuilder text) {
        int place = draws.draw(text.length());
        switch (draws.draw(3)) {
            case 0:
                text.deleteCharAt(place);
                break;
            case 1:
                text.insert(place, word());
                break;
            default:
                text.setCharAt(place, (char) draws.draw(256));
                break;
        }
    }

    private String word() {
        return WORDS[draws.draw(WORDS.length)];
    }

    private String item() {
        int sort = draws.draw(10);
        StringBuilder item = new StringBuilder();
        if (sort == 0) {
            item.append(draws.draw(2) == 0 ? "rain" : "dry");
        } else if (sort < 5) {
            item.append(WORDS[draws.draw(7)]);
            trait(item, "in", 0, 15);
            trait(item, "long", 1, 99);
        } else {
            item.append("pond ").append(number(0, 15));
            trait(item, "shows", 0, 15);
            trait(item, "size", 1, 9);
            trait(item, "turned", 0, 3);
            item.append(draws.draw(3) == 0 ? " flipped" : "");
            trait(item, "ditch", 0, 15);
            trait(item, "depth", 0, 99);
        }
        return item.toString();
    }

    private void trait(StringBuilder item, String word, int least, int most) {
        if (draws.draw(5) < 2) {
            item.append(' ').append(word).append(' ').append(number(least, most));
        }
    }

    private String number(int least, int most) {
        switch (draws.draw(40)) {
            case 0:
                return Integer.toString(most + 1);
            case 1:
                return Integer.toString(least == 0 ? 999 : least - 1);
            case 2:
                return "0" + least;
            default:
                return Integer.toString(least + draws.draw(most - least + 1));
        }
    }
}
