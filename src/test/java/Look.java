import java.util.ArrayList;
import java.util.List;

/** All that can be told of a fen, row by row. The looking changes it: look at each one once. */
final class Look {
    private final PondLenses x;
    private final List<String> rows = new ArrayList<>();

    private Look(PondLenses x) {
        this.x = x;
    }

    static List<String> at(PondLenses x) {
        Look look = new Look(x);
        // The counts of findings first, as looking further may find some.
        for (int which = -1; which <= 6; which++) {
            look.row("status " + which, x.status(which));
        }
        look.fen("");
        look.row("bytes", x.count(5));
        look.row("text", x.text());
        look.row("text, depth of 9", x.pond(9, 5));
        for (int s = 0; s < 4; s++) {
            look.sheet(s);
        }
        int minute = x.undo();
        look.row("undo", minute);
        if (minute >= 0) {
            look.fen("kept ");
        }
        return look.rows;
    }

    /** What is other in the second, row by row. */
    static String changes(List<String> before, List<String> behind) {
        StringBuilder told = new StringBuilder();
        for (String row : behind) {
            if (!before.contains(row)) {
                told.append(told.length() == 0 ? "" : ", ").append(row);
            }
        }
        for (String row : before) {
            String name = row.substring(0, row.indexOf('='));
            if (behind.stream().noneMatch(other -> other.startsWith(name + "="))) {
                told.append(told.length() == 0 ? "" : ", ").append(name).append(" gone");
            }
        }
        return told.toString();
    }

    private void row(String name, long answer) {
        rows.add(name + "=" + answer);
    }

    private void fen(String when) {
        for (int pond = 0; pond < 16; pond++) {
            for (int what = 0; what <= 5; what++) {
                row(when + "pond " + pond + " " + what, x.pond(pond, what));
            }
        }
        int things = x.count(1);
        for (int thing = 0; thing < things; thing++) {
            for (int what = 0; what <= 2; what++) {
                row(when + "thing " + thing + " " + what, x.of(thing, what));
            }
        }
        for (int spot = 0; spot < 10; spot++) {
            row(when + "spot " + spot, x.as(spot, 0));
        }
        row(when + "minute", x.now(0));
        row(when + "rain", x.now(3));
        row(when + "z", x.count(6));
    }

    /** Its first numbers by what depths they bring, then how long it is, and how many bits it keeps. */
    private void sheet(int s) {
        int came = x.load(s);
        row("sheet " + s + " brings", came);
        for (int i = 0; i < Math.min(came, 4); i++) {
            row("sheet " + s + " number " + i, x.pond(i, 5));
        }
        int length = 0;
        while (length <= 40 && x.write(s, length, 0) == 1) {
            length++;
        }
        row("sheet " + s + " long", length);
        x.write(s, 0, 1 << 8);
        row("sheet " + s + " takes 256", x.load(s));
        x.write(s, 0, 1 << 16);
        row("sheet " + s + " takes 65536", x.load(s));
    }
}
