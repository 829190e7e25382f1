import java.util.Arrays;
import java.util.LinkedHashMap;
import java.util.Map;
import java.util.function.Consumer;

// All that calls can tell of an object. What tells it may change the object, so each look is at a new one, that the
// same calls have led there; so no object is used for more calls than the document promises to answer.
final class Seen {
    static final String TABLE = "table", TIES = "ties", ACTS = "acts", IMAGE_0 = "image 0", IMAGE_1 = "image 1",
        TRACE = "trace", FAULT = "fault", STATUS = "status", TAPE = "tape", ROW = "row ";
    private static final int MOST_ACTS = 24, MOST_TRACE = 16;

    private Seen() {
    }

    static TableShares read(String text) {
        TableShares x = new TableShares();
        read(x, text);
        return x;
    }

    static int read(TableShares x, String text) {
        feed(x, text);
        return x.table();
    }

    static void feed(TableShares x, String text) {
        for (int i = 0; i < text.length(); i++) {
            x.feed(text.charAt(i));
        }
    }

    // A ROW of ints.
    static void row(TableShares x, int row, int... items) {
        x.row(row, 2, items.length);
        for (int i = 0; i < items.length; i++) {
            x.set(row, i, items[i]);
        }
    }

    // An object of which every look tells something: a TABLE with ACTS, both IMAGES, a TRACE, and what needs no TABLE.
    static void everything(TableShares x) {
        read(x, "t4;a3,7;q6,5;y9,2;");
        x.image(0);
        x.away(3, 1);
        x.meals(2);
        x.tie(5, 8, 9);
        x.away(1, 1);
        x.meals(1);
        x.image(1);
        x.away(1, 0);
        x.untie();
        x.ask(0, 0);
        withoutTable(x);
    }

    // What needs no TABLE: ROWS of each LANE, a FAULT, a text that is begun, a FINDING.
    static void withoutTable(TableShares x) {
        read(x, "t2;a4");
        for (int row = 0; row < 3; row++) {
            x.row(row, row, 6);
            for (int i = 0; i < 6; i++) {
                x.set(row, i, i + 7 * row & 15);
            }
        }
        x.set(2, 3, 16);
        x.row(3, 2, 0);
        feed(x, "t3;y5,1");
        x.drop(7);
    }

    static TableShares withEverything() {
        TableShares x = new TableShares();
        everything(x);
        return x;
    }

    static Map<String, String> by(Consumer<TableShares> calls) {
        Map<String, String> seen = new LinkedHashMap<>();
        for (int row = 0; row < 8; row++) {
            seen.put(ROW + row, rowOf(after(calls), row));
        }
        seen.put(TAPE, tapeOf(after(calls)));
        seen.put(FAULT, "" + after(calls).fault());
        seen.put(TABLE, tableOf(after(calls)));
        seen.put(TIES, tiesOf(after(calls)));
        seen.put(ACTS, actsOf(after(calls)));
        seen.put(IMAGE_0, imageOf(after(calls), 0));
        seen.put(IMAGE_1, imageOf(after(calls), 1));
        seen.put(TRACE, traceOf(after(calls)));
        seen.put(STATUS, "" + after(calls).status());
        return seen;
    }

    // What is told otherwise after the calls and one more than after the calls alone.
    static String changed(Consumer<TableShares> calls, Consumer<TableShares> oneMore) {
        Map<String, String> before = by(calls);
        Map<String, String> after = by(calls.andThen(oneMore));
        StringBuilder changed = new StringBuilder();
        for (String look : before.keySet()) {
            if (!before.get(look).equals(after.get(look))) {
                changed.append(changed.length() == 0 ? "" : ", ").append(look);
            }
        }
        return changed.toString();
    }

    private static TableShares after(Consumer<TableShares> calls) {
        TableShares x = new TableShares();
        calls.accept(x);
        return x;
    }

    // Its LANE, by the ROWS that it can be copied to; its ITEMS (-1 to 16: what is beyond is seen as these), by the
    // least WORTH that is more than each; how many they are.
    private static String rowOf(TableShares x, int row) {
        int other = (row + 1) % 8;
        StringBuilder seen = new StringBuilder();
        for (int lane = 0; lane < 3; lane++) {
            x.row(other, lane, 8);
            seen.append(x.copy(row, 0, other, 0, 0)).append(' ');
            int n = 6;
            while (n > 0 && x.copy(row, 0, other, 0, n) != n) {
                n--;
            }
            if (n > 0) {
                seen.append(itemsOf(x, other, n));
            }
        }
        return seen.append("of ").append(x.drop(row)).toString();
    }

    private static String itemsOf(TableShares x, int row, int n) {
        x.table();
        read(x, "t2;");
        int[] items = new int[n];
        Arrays.fill(items, 16);
        for (int worth = 16; worth >= 0; worth--) {
            x.tie(1, 1, worth);
            for (int i = 0; i < n; i++) {
                items[i] = x.leaves(row, i) == 1 ? worth - 1 : items[i];
            }
            x.untie();
        }
        StringBuilder seen = new StringBuilder();
        for (int item : items) {
            seen.append(item).append(',');
        }
        return seen.toString();
    }

    private static String tapeOf(TableShares x) {
        String seen = x.count(6) + " bytes, ";
        feed(x, "7;");
        int read = x.table();
        return seen + read + (read < 0 ? " FAULT " + x.fault() : " " + tableOf(x) + " " + tiesOf(x));
    }

    private static String tableOf(TableShares x) {
        StringBuilder seen = new StringBuilder();
        seen.append(x.count(1)).append(" PEOPLE,");
        for (int what = 0; what < 5; what++) {
            seen.append(' ').append(x.tableHas(what));
        }
        return seen.append(' ').append(x.count(3)).append(' ').append(x.count(4)).toString();
    }

    private static String tiesOf(TableShares x) {
        StringBuilder seen = new StringBuilder();
        seen.append(x.count(2)).append(" TIES");
        for (int tie = 0; tie < x.count(2); tie++) {
            seen.append(", ").append(tieOf(x, tie));
        }
        return seen.toString();
    }

    private static String tieOf(TableShares x, int tie) {
        return x.kind(tie) + " " + x.tieHas(tie, 0) + " " + x.tieHas(tie, 1);
    }

    private static String actsOf(TableShares x) {
        StringBuilder seen = new StringBuilder();
        seen.append(x.count(5));
        int left = 0;
        for (int act = 0; act <= MOST_ACTS && left >= 0; act++) {
            left = x.undo();
            seen.append(" | ").append(left).append(": ").append(x.tableHas(0)).append(' ').append(x.count(3));
            seen.append(' ').append(x.tableHas(4)).append(' ').append(x.count(2)).append(' ');
            seen.append(tieOf(x, x.count(2) - 1));
        }
        return seen.toString();
    }

    private static String imageOf(TableShares x, int k) {
        return x.restore(k) + " " + tableOf(x) + " " + tiesOf(x);
    }

    private static String traceOf(TableShares x) {
        StringBuilder seen = new StringBuilder();
        for (int i = 0; i <= MOST_TRACE; i++) {
            seen.append(x.trace(i)).append(' ');
        }
        return seen.toString().trim();
    }
}
