/** Promises 33 to 35: the tape and texts. */
public final class TextsTest {
    private static final Due due = new Due();

    public static void main(String[] args) {
        promise33();
        toTheLastByte();
        promise34();
        things();
        ponds();
        pondsFirstAndLast();
        rain();
        faults();
        eachByte();
        eachWord();
        eachLimit();
        ninthThing();
        nothingOfAFault();
        longTexts();
        due.end();
    }

    private static void promise33() {
        PondLenses x = new PondLenses();
        due.is("33 n 0", Fens.BEYOND, x.feed(0, 0));
        due.is("33 n 5", Fens.BEYOND, x.feed(0, 5));
        due.is("33 n -1", Fens.BEYOND, x.feed(0, -1));
        due.is("33 one", 1, x.feed('d', 1));
        due.is("33 two more", 3, x.feed('r' << 8 | 'y', 2));
        due.is("33 highest first", 1, x.text());
        due.is("33 three", 3, x.feed(0x7F000000 | ' ' << 16 | 'd' << 8 | 'r', 3));
        due.is("33 the lowest alone", 4, x.feed(0x12345600 | 'y', 1));
        due.is("33 read", 1, x.text());
        for (int i = 1; i <= 29; i++) {
            due.is("33 four", 4 * i, x.feed(0x20202020, 4));
        }
        due.is("33 three", 119, x.feed(0x202020, 3));
        due.is("33 full", Fens.FULL, x.feed(0x2020, 2));
        due.is("33 beyond ahead of full", Fens.BEYOND, x.feed(0, 5));
        due.is("33 the last", 120, x.feed(0x20, 1));
        due.is("33 full", Fens.FULL, x.feed(0x20, 1));
        due.is("33 stays", 120, x.count(5));
    }

    /** Of 1 to 4 bytes the lowest, the highest of these first; the tape holds 120 and none more. */
    private static void toTheLastByte() {
        String[] texts = {"?", "d?", "dr?", "dry?"};
        int[] bytes = {0x6472793F, 0x7279643F, 0x7964723F, 0x6472793F};
        int[] fault = {0, 0, 0, 3};
        for (int n = 1; n <= 4; n++) {
            PondLenses x = new PondLenses();
            due.is("33 so many", n, x.feed(bytes[n - 1], n));
            due.is("33 " + texts[n - 1], -1 - fault[n - 1], x.text());
            due.is("33 none left", 0, x.count(5));
            for (int from = 120 - n; from <= 120; from++) {
                while (x.count(5) < from) {
                    x.feed(' ', 1);
                }
                int want = from == 120 - n ? 120 : Fens.FULL;
                due.is("33 " + n + " behind " + from, want, x.feed(-1, n));
                if (want == 120) {
                    due.is("33 no blanks", -1 - from, x.text());
                }
            }
            due.is("33 the tape is full", 120, x.wipe());
        }
        PondLenses x = new PondLenses();
        x.feed(0x72616900 | 'n', 4);
        due.is("33 in order", 1, x.text());
        due.is("33 rain", 1, x.now(3));
    }

    private static void promise34() {
        PondLenses x = new PondLenses();
        due.is("34 empty", 0, x.wipe());
        Fens.feed(x, "fish");
        due.is("34 had", 4, x.wipe());
        due.is("34 is empty", 0, x.count(5));
        due.is("34 read", 1, Fens.read(x, "dry"));
        due.is("34 no thing", 0, x.count(1));
    }

    private static void things() {
        PondLenses x = new PondLenses();
        String[] names = {"thing", "fish", "duck", "frog", "heron", "cork", "pike"};
        for (int kind = 0; kind <= 6; kind++) {
            due.is("35 " + names[kind], 1, Fens.read(x, names[kind]));
            due.is("35 kind", kind, x.of(kind, 0));
            due.is("35 pond", 0, x.of(kind, 1));
            due.is("35 length", 9, x.of(kind, 2));
        }
        PondLenses y = new PondLenses();
        due.is("35 four", 4, Fens.read(y, "pike in 15 long 99;duck in 0;frog long 1 ;  cork in003long0042"));
        due.is("35 in 15", 15, y.of(0, 1));
        due.is("35 long 99", 99, y.of(0, 2));
        due.is("35 duck", 2, y.of(1, 0));
        due.is("35 frog", 1, y.of(2, 2));
        due.is("35 no blanks", 3, y.of(3, 1));
        due.is("35 zeros ahead", 42, y.of(3, 2));
        due.is("35 tape", 0, y.count(5));
    }

    private static void ponds() {
        PondLenses x = new PondLenses();
        String all = " pond 7 shows 2 size 9 turned 3 flipped ditch 15 depth 99 ";
        due.is("35 all", 1, Fens.read(x, all));
        int[] is = {2, 9, 3, 1, 15, 99};
        for (int what = 0; what <= 5; what++) {
            due.is("35 pond 7 " + what, is[what], x.pond(7, what));
        }
        due.is("35 nothing told", 1, Fens.read(x, "pond 7"));
        for (int what = 0; what <= 5; what++) {
            due.is("35 pond 7 stays " + what, is[what], x.pond(7, what));
        }
        due.is("35 some", 2, Fens.read(x, "pond 7 turned 0 depth 0;pond 15 shows 0 size 1 ditch 0"));
        due.is("35 turned", 0, x.pond(7, 2));
        due.is("35 depth", 0, x.pond(7, 5));
        due.is("35 size stays", 9, x.pond(7, 1));
        due.is("35 size", 1, x.pond(15, 1));
        due.is("35 ditch", 0, x.pond(15, 4));
        due.is("35 item by item", 2, Fens.read(x, "pond 3 size 4;pond 3 size 5"));
        due.is("35 the last", 5, x.pond(3, 1));
    }

    private static void pondsFirstAndLast() {
        PondLenses x = new PondLenses();
        due.is("35 pond 0", 1, Fens.read(x, "pond 0"));
        due.is("35 pond 15", 1, Fens.read(x, "pond 15"));
        due.is("35 pond 0 shows 15", 1, Fens.read(x, "pond 0 shows 15 ditch 15 depth 1"));
        due.is("35 shows 15", 15, x.pond(0, 0));
        due.is("35 ditch 15", 15, x.pond(0, 4));
        due.is("35 depth 1", 1, x.pond(0, 5));
        due.is("35 pond 15 shows 14", 1, Fens.read(x, "pond 15 shows 14 flipped"));
        due.is("35 shows 14", 14, x.pond(15, 0));
        due.is("35 flipped", 1, x.pond(15, 3));
        due.is("35 flipped again", 1, Fens.read(x, "pond 15 flipped"));
        due.is("35 stays flipped", 1, x.pond(15, 3));
        due.is("35 flipped untold", 1, Fens.read(x, "pond 15 turned 2"));
        due.is("35 stays flipped", 1, x.pond(15, 3));
        due.is("35 pond 3 shows 0", 2, Fens.read(x, "pond 3 shows 0;pond 0 shows 3"));
        due.is("35 shows 0", 0, x.pond(3, 0));
        due.is("35 shows 3", 3, x.pond(0, 0));
        due.is("35 itself, 0", -1 - 13, Fens.read(x, "pond 0 shows 0"));
        due.is("35 itself, 15", -1 - 14, Fens.read(x, "pond 15 shows 15"));
        due.is("35 a ditch to itself", 1, Fens.read(x, "pond 0 ditch 0"));
        due.is("35 ditch 0", 0, x.pond(0, 4));
        // Of each two that follow one another the second may stand without those ahead of it.
        String[] some = {"size 9", "turned 3", "flipped", "ditch 9", "depth 9", "shows 9 depth 8", "size 8 ditch 8"};
        for (String traits : some) {
            due.is("35 " + traits, 1, Fens.read(x, "pond 7 " + traits));
        }
        int[] is = {9, 8, 3, 1, 8, 8};
        for (int what = 0; what <= 5; what++) {
            due.is("35 pond 7 " + what, is[what], x.pond(7, what));
        }
    }

    private static void rain() {
        PondLenses x = new PondLenses();
        due.is("35 rain", 1, Fens.read(x, "rain"));
        due.is("35 rains", 1, x.now(3));
        due.is("35 dry", 1, Fens.read(x, "dry"));
        due.is("35 is dry", 0, x.now(3));
        due.is("35 by turns", 3, Fens.read(x, "rain;dry;rain"));
        due.is("35 rains", 1, x.now(3));
    }

    private static void faults() {
        String[] texts = {
            "", "   ", ";", "fish;", "fish; ", "fish fish", "fish,", "Fish", "fish in", "fish in ", "fish in duck",
            "fish in 16", "fish in 999", "fish in 1000", "fish in 99999999999999999999", "fish long 0", "fish long 100",
            "fish long", "fish long 3 in 3", "fish in 3 in 3", "fish 3", "fishin 3", "in 3", "3", "pond", "pond  ",
            "pond x", "pond 16", "pond 3 3", "pond 3 shows 3", "pond 3 shows 03", "pond 3 shows 16", "pond 3 shows",
            "pond 3 size 0", "pond 3 size 10", "pond 3 turned 4", "pond 3 flipped 0", "pond 3 flipped flipped",
            "pond 3 ditch 16", "pond 3 depth 100", "pond 3 depth", "pond 3 depth 9 ditch 9", "pond 3 size 1 shows 1",
            "pond 3 turned 1 size 1", "pond 3 flipped turned 1", "pond 3 ditch 1 flipped", "rain 1", "rain dry",
            "dry;;dry", "rain\n", "\train", "rain;dry;\u00e9", "fish in 3;duck in 17;,", "fish in -1", "ponds 3",
            "swan", "fish in 3 long 9 9", "a", "pond 3 shows size 3", "pond 3 long 3", "fish depth 3", "rain;sun",
            "gish", "fisk", "fis", "bond 3", "rainy", "fish on 3", "pond 3 sizes 3", "fish;pike long 3;;",
        };
        int[] places = {
            0, 3, 0, 5, 6, 5, 4, 0, 7, 8, 8,
            8, 8, 8, 8, 10, 10,
            9, 12, 10, 5, 0, 0, 0, 4, 6,
            5, 5, 7, 13, 13, 13, 12,
            12, 12, 14, 15, 15,
            13, 13, 12, 15, 14,
            16, 15, 15, 5, 5,
            4, 4, 0, 9, 18, 8, 0,
            0, 17, 0, 13, 7, 5, 5,
            0, 0, 0, 0, 0, 5, 7, 17,
        };
        due.is("35 as many places as texts", texts.length, places.length);
        for (int i = 0; i < texts.length; i++) {
            PondLenses x = new PondLenses();
            due.is("35 " + texts[i], -1 - places[i], Fens.read(x, texts[i]));
            due.is("35 the tape is empty", 0, x.count(5));
            due.is("35 no thing", 0, x.count(1));
            due.is("35 no finding", 0, x.status(-1));
        }
    }

    /** A blank is the one byte that is no token; letters, digits and ; are of tokens, and no others. */
    private static void eachByte() {
        for (int b = 0; b < 256; b++) {
            PondLenses x = new PondLenses();
            x.feed(b, 1);
            due.is("35 byte " + b + " alone", b == ' ' ? -2 : -1, x.text());
            boolean letter = b >= 'a' && b <= 'z';
            Fens.feed(x, "rain");
            x.feed(b, 1);
            Fens.feed(x, ";dry");
            due.is("35 byte " + b + " behind a word", b == ' ' ? 2 : letter ? -1 : b == ';' ? -6 : -5, x.text());
            Fens.feed(x, "fish in 1");
            x.feed(b, 1);
            boolean fits = b == ' ' || b >= '0' && b <= '5';
            boolean digit = b >= '0' && b <= '9';
            due.is("35 byte " + b + " behind a number", fits ? 1 : digit ? -9 : b == ';' ? -11 : -10, x.text());
            due.is("35 byte " + b + ", things", fits ? 1 : 0, x.count(1));
            due.is("35 byte " + b + ", where", !fits ? Fens.BEYOND : b == ' ' ? 1 : 10 + b - '0', x.of(0, 1));
        }
    }

    private static final String[] WORDS = {
        "thing", "fish", "duck", "frog", "heron", "cork", "pike", "in", "long", "pond", "shows", "size", "turned",
        "flipped", "ditch", "depth", "rain", "dry", "", "a", "things", "ins", "shown", "wet", "fishin", "raindry", "z",
    };

    private static boolean isOf(String word, String all) {
        return !word.isEmpty() && (" " + all + " ").contains(" " + word + " ");
    }

    /** Each word where each other may stand: where it can't, it is the fault, or what is behind it. */
    private static void eachWord() {
        String items = "thing fish duck frog heron cork pike rain dry";
        for (String word : WORDS) {
            boolean pond = word.equals("pond");
            int first = isOf(word, items) ? 1 : pond ? -1 - 4 : -1;
            due.is("35 first " + word, first, read(word));
            int second = isOf(word, items) ? 2 : pond ? -1 - 8 : -1 - 4;
            due.is("35 second " + word, second, read("dry;" + word));
            place("fish ", word, "in long");
            place("fish in 3 ", word, "long");
            place("fish long 3 ", word, "");
            place("pond 3 ", word, "shows size turned flipped ditch depth");
            place("pond 3 shows 4 ", word, "size turned flipped ditch depth");
            place("pond 3 size 4 ", word, "turned flipped ditch depth");
            place("pond 3 turned 1 ", word, "flipped ditch depth");
            place("pond 3 flipped ", word, "ditch depth");
            place("pond 3 ditch 1 ", word, "depth");
            place("pond 3 depth 1 ", word, "");
            place("rain ", word, "");
            for (String ahead : new String[] {"fish in ", "fish long ", "pond ", "pond 3 depth "}) {
                due.is("35 no number but " + word, -1 - ahead.length(), read(ahead + word));
            }
        }
    }

    private static int read(String text) {
        return Fens.read(new PondLenses(), text);
    }

    /** Behind what is a text already, a word that may stand there wants its number; any other is a fault. */
    private static void place(String ahead, String word, String may) {
        String text = ahead + word;
        int alone = -1 - text.length();
        int withNumber = 1;
        if (word.isEmpty() || word.equals("flipped") && isOf(word, may)) {
            alone = 1;
            withNumber = -1 - text.length() - 1;
        } else if (!isOf(word, may)) {
            alone = -1 - ahead.length();
            withNumber = alone;
        }
        due.is("35 " + text, alone, read(text));
        due.is("35 " + text + " 1", withNumber, read(text + " 1"));
    }

    /** Each number at its limits and one beyond, and as the longest that is a number. */
    private static void eachLimit() {
        String[] ahead = {
            "fish in ", "fish long ", "fish in 2 long ", "pond ", "pond 7 shows ", "pond 7 size ", "pond 7 turned ",
            "pond 7 ditch ", "pond 7 depth ",
        };
        int[] least = {0, 1, 1, 0, 0, 1, 0, 0, 0};
        int[] most = {15, 99, 99, 15, 15, 9, 3, 15, 99};
        int[] numbers = {0, 1, 2, 3, 4, 6, 7, 8, 9, 10, 14, 15, 16, 17, 98, 99, 100, 101, 998, 999, 1000, 1001, 9999};
        for (int i = 0; i < ahead.length; i++) {
            for (int number : numbers) {
                boolean fits = number >= least[i] && number <= most[i] && (number != 7 || i != 4);
                int want = fits ? 1 : -1 - ahead[i].length();
                due.is("35 " + ahead[i] + number, want, read(ahead[i] + number));
                due.is("35 " + ahead[i] + number + ";", fits ? 2 : want, read(ahead[i] + number + ";rain"));
                due.is("35 zeros ahead, " + ahead[i] + number, want, read(ahead[i] + "0000" + number));
            }
            // What wraps around to a small number is one far too great: 2 to the 32, and to the 64, and 1.
            for (String none : new String[] {"", "4294967297", "18446744073709551617"}) {
                due.is("35 " + ahead[i] + none, -1 - ahead[i].length(), read(ahead[i] + none));
            }
        }
        for (String none : new String[] {"fish ", "fish in 3 ", "fish long 3 ", "rain ", "pond 3 ", "pond 3 flipped "}) {
            due.is("35 a number behind " + none, -1 - none.length(), read(none + "1"));
            due.is("35 a number behind " + none, -1 - none.length(), read(none + "1000"));
        }
    }

    private static void ninthThing() {
        PondLenses x = new PondLenses();
        due.is("35 six", 6, Fens.read(x, "fish;fish;fish;fish;fish;fish"));
        due.is("35 a ninth", -1 - 12, Fens.read(x, "duck ; frog;cork in 99"));
        due.is("35 none of them", 6, x.count(1));
        due.is("35 two more", 3, Fens.read(x, "duck;rain;frog"));
        due.is("35 eight", 8, x.count(1));
        due.is("35 no more", -1, Fens.read(x, "thing"));
        due.is("35 no more", -6, Fens.read(x, "rain;fish in 99"));
        due.is("35 ahead of what follows", -6, Fens.read(x, "rain;fish,"));
        due.is("35 a fault ahead of it", -5, Fens.read(x, "rain,fish"));
        due.is("35 ponds still", 2, Fens.read(x, "pond 3 depth 9;dry"));
        due.is("35 eight", 8, x.count(1));
        PondLenses y = new PondLenses();
        String eight = "fish;duck;frog;pike;cork;heron;thing;fish in 15";
        due.is("35 nine at once", -1 - 48, Fens.read(y, eight + ";pike in 3"));
        due.is("35 none of them", 0, y.count(1));
        due.is("35 eight at once", 8, Fens.read(y, eight));
        due.is("35 the eighth", 15, y.of(7, 1));
    }

    private static void nothingOfAFault() {
        PondLenses x = new PondLenses();
        due.is("35 fault", -1 - 47, Fens.read(x, "fish in 3;pond 2 shows 9 depth 1;rain; fish in 16"));
        due.is("35 no thing", 0, x.count(1));
        due.is("35 no lens", 3, x.pond(2, 0));
        due.is("35 no depth", 10, x.pond(2, 5));
        due.is("35 no rain", 0, x.now(3));
    }

    private static void longTexts() {
        PondLenses x = new PondLenses();
        StringBuilder text = new StringBuilder("rain");
        for (int i = 0; i < 28; i++) {
            text.append(";dry");
        }
        due.is("35 116 bytes", 29, Fens.read(x, text.toString()));
        due.is("35 is dry", 0, x.now(3));
        String blanks = " ".repeat(116);
        due.is("35 120 bytes", 1, Fens.read(x, blanks + "rain"));
        due.is("35 120 bytes", 1, Fens.read(x, "rain" + blanks));
        due.is("35 120 blanks", -121, Fens.read(x, blanks + "    "));
        due.is("35 120 letters", -1, Fens.read(x, "a".repeat(120)));
        due.is("35 120 digits", -1, Fens.read(x, "1".repeat(120)));
        due.is("35 120 signs", -1, Fens.read(x, ";".repeat(120)));
        due.is("35 120 words and numbers", -1, Fens.read(x, "a1".repeat(60)));
        due.is("35 a long number", -10, Fens.read(x, "fish long" + "9".repeat(111)));
        due.is("35 many zeros", 1, Fens.read(x, "fish long" + "0".repeat(109) + "77"));
        due.is("35 many zeros", 77, x.of(0, 2));
        due.is("35 ends too early", -121, Fens.read(x, "pond" + blanks));
    }
}
