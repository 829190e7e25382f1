// Promises 2 to 5 (row, set, copy, drop), and 35 (status) by calls with ROWS.
public final class RowsTest {
    private static final int BAD = -1000001, NULL = -1000011, PLACE = -1000012, SIZE = -1000014, STORE = -1000015;
    private static final int LEAST = Integer.MIN_VALUE, MOST = Integer.MAX_VALUE;
    private static int wrong = 0;

    private static void due(String call, long got, long want) {
        if (got != want) {
            wrong++;
            System.out.println(call + " answered " + got + ", due is " + want);
        }
    }

    public static void main(String[] args) {
        rowIsMade();
        rowIsRefused();
        itemsAreSet();
        setIsRefused();
        itemsAreCopied();
        copyIsRefused();
        rowsAreDropped();
        statusIsOfTheLatest();
        System.out.println(wrong == 0 ? "all answers are as due" : wrong + " answers are not as due");
        if (wrong != 0) {
            System.exit(1);
        }
    }

    // An ITEM is read by copying it to a ROW of one place, of which set() would tell nothing: so the ROW is
    // compared by whose ITEM it can stand in for: leaves() of two PEOPLE who are WORTH w alone.
    private static boolean isAtLeast(TableShares x, int row, int i, int worth) {
        table(x, "t2;a1," + worth + ";");
        int answer = x.leaves(row, i);
        return answer != 1;
    }

    private static void table(TableShares x, String text) {
        for (int i = 0; i < text.length(); i++) {
            x.feed(text.charAt(i));
        }
        x.table();
    }

    private static void dueItem(TableShares x, int row, int i, int want) {
        due("ITEM " + i + " of ROW " + row + " is " + want + " or more", isAtLeast(x, row, i, want) ? 1 : 0, 1);
        due("ITEM " + i + " of ROW " + row + " is above " + want, isAtLeast(x, row, i, want + 1) ? 1 : 0, 0);
    }

    private static void rowIsMade() {
        TableShares x = new TableShares();
        for (int row = 0; row < 8; row++) {
            due("row of lane " + row % 3, x.row(row, row % 3, row), row);
        }
        due("count(0)", x.count(0), 8);
        due("row(7, 2, 40)", x.row(7, 2, 40), 40);
        due("row(7, 2, 0)", x.row(7, 2, 0), 0);
        due("count(0) of ROWS, one of them empty", x.count(0), 8);
        due("row(0, 2, 2)", x.row(0, 2, 2), 2);
        dueItem(x, 0, 0, 0);
        x.set(0, 0, 9);
        dueItem(x, 0, 0, 9);
        due("row in place of a ROW", x.row(0, 2, 2), 2);
        dueItem(x, 0, 0, 0);
        x.set(0, 0, 9);
        x.drop(0);
        x.row(0, 2, 2);
        dueItem(x, 0, 0, 0);
        x.row(0, 0, 3);
        due("lane in place of a lane", x.set(0, 2, 128), -128);
    }

    private static void rowIsRefused() {
        TableShares x = new TableShares();
        int[] rows = {-1, 8, LEAST, MOST};
        for (int row : rows) {
            due("row(" + row + ", 0, 1)", x.row(row, 0, 1), BAD);
        }
        int[] lanes = {-1, 3, LEAST, MOST};
        for (int lane : lanes) {
            due("row(0, " + lane + ", 1)", x.row(0, lane, 1), BAD);
        }
        due("row(0, 0, 41)", x.row(0, 0, 41), BAD);
        due("row(0, 0, MOST)", x.row(0, 0, MOST), BAD);
        due("row(8, 0, -1)", x.row(8, 0, -1), BAD);
        due("row(0, 3, -1)", x.row(0, 3, -1), BAD);
        due("row(0, 0, -1)", x.row(0, 0, -1), SIZE);
        due("row(0, 0, LEAST)", x.row(0, 0, LEAST), SIZE);
        due("count(0)", x.count(0), 0);
        x.row(0, 1, 2);
        due("row(0, 0, -1) of a ROW", x.row(0, 0, -1), SIZE);
        due("row(0, 0, 41) of a ROW", x.row(0, 0, 41), BAD);
        due("set of the ROW that stayed", x.set(0, 1, 300), 300);
    }

    private static void itemsAreSet() {
        TableShares x = new TableShares();
        x.row(0, 0, 2);
        x.row(1, 1, 2);
        x.row(2, 2, 2);
        int[] values = {0, 1, -1, 127, 128, 255, 256, -128, -129, 32767, 32768, 65535, 65536, -32769, MOST, LEAST};
        for (int v : values) {
            due("set(0, 0, " + v + ")", x.set(0, 0, v), (byte) v);
            due("set(1, 1, " + v + ")", x.set(1, 1, v), (short) v);
            due("set(2, 0, " + v + ")", x.set(2, 0, v), v);
        }
        x.set(2, 0, 3);
        x.set(2, 1, 4);
        dueItem(x, 2, 0, 3);
    }

    private static void setIsRefused() {
        TableShares x = new TableShares();
        x.row(0, 0, 2);
        due("set(-1, 0, 0)", x.set(-1, 0, 0), BAD);
        due("set(8, 0, 0)", x.set(8, 0, 0), BAD);
        due("set(1, 0, 0)", x.set(1, 0, 0), NULL);
        due("set(1, -1, 0)", x.set(1, -1, 0), NULL);
        int[] places = {-1, 2, 39, 40, LEAST, MOST};
        for (int i : places) {
            due("set(0, " + i + ", 0)", x.set(0, i, 0), PLACE);
        }
        x.row(3, 0, 0);
        due("set(3, 0, 0)", x.set(3, 0, 0), PLACE);
    }

    private static void itemsAreCopied() {
        TableShares x = new TableShares();
        x.row(0, 2, 6);
        x.row(1, 2, 7);
        for (int i = 0; i < 6; i++) {
            x.set(0, i, 10 + i);
        }
        due("copy(0, 1, 1, 3, 2)", x.copy(0, 1, 1, 3, 2), 2);
        dueItem(x, 1, 2, 0);
        dueItem(x, 1, 3, 11);
        dueItem(x, 1, 4, 12);
        dueItem(x, 1, 5, 0);
        due("copy forward within a ROW", x.copy(0, 0, 0, 1, 4), 4);
        dueItem(x, 0, 0, 10);
        dueItem(x, 0, 1, 10);
        dueItem(x, 0, 2, 11);
        dueItem(x, 0, 4, 13);
        due("copy backward within a ROW", x.copy(0, 1, 0, 0, 5), 5);
        dueItem(x, 0, 0, 10);
        dueItem(x, 0, 1, 11);
        dueItem(x, 0, 3, 13);
        due("copy of none, at the ends", x.copy(0, 6, 1, 7, 0), 0);
        due("copy of a whole ROW", x.copy(0, 0, 1, 1, 6), 6);
        dueItem(x, 1, 1, 10);
        due("status()", x.status(), 0);
    }

    private static void copyIsRefused() {
        TableShares x = new TableShares();
        x.row(0, 0, 3);
        x.row(1, 1, 3);
        x.row(2, 0, 2);
        due("copy(-1, 0, 0, 0, 0)", x.copy(-1, 0, 0, 0, 0), BAD);
        due("copy(0, 0, 8, 0, 0)", x.copy(0, 0, 8, 0, 0), BAD);
        due("copy(7, 0, 8, 0, 0)", x.copy(7, 0, 8, 0, 0), BAD);
        due("copy(7, 0, 0, 0, 0)", x.copy(7, 0, 0, 0, 0), NULL);
        due("copy(0, 9, 7, 0, 0)", x.copy(0, 9, 7, 0, 0), NULL);
        due("copy(0, 9, 1, 9, 9)", x.copy(0, 9, 1, 9, 9), STORE);
        due("copy(0, 0, 1, 0, 0)", x.copy(0, 0, 1, 0, 0), STORE);
        int[][] beyond = {{-1, 0, 1}, {0, -1, 1}, {0, 0, -1}, {0, 0, 3}, {0, 1, 2}, {2, 0, 2}, {4, 0, 0}, {0, 3, 0},
            {MOST, 0, 1}, {0, MOST, 1}, {0, 0, MOST}, {MOST, 0, MOST}, {1, 1, MOST}, {LEAST, 0, 1}, {0, LEAST, 1},
            {0, 0, LEAST}, {1, 0, LEAST}, {LEAST, LEAST, LEAST}};
        for (int[] p : beyond) {
            due("copy(0, " + p[0] + ", 2, " + p[1] + ", " + p[2] + ")", x.copy(0, p[0], 2, p[1], p[2]), PLACE);
        }
        due("copy(0, 1, 2, 0, 2)", x.copy(0, 1, 2, 0, 2), 2);
        due("copy(0, 3, 2, 2, 0)", x.copy(0, 3, 2, 2, 0), 0);
    }

    private static void rowsAreDropped() {
        TableShares x = new TableShares();
        x.row(3, 1, 17);
        x.row(4, 1, 0);
        due("drop(3)", x.drop(3), 17);
        due("count(0)", x.count(0), 1);
        due("drop(3) again", x.drop(3), NULL);
        due("drop(4)", x.drop(4), 0);
        due("count(0)", x.count(0), 0);
        due("drop(-1)", x.drop(-1), BAD);
        due("drop(8)", x.drop(8), BAD);
        due("set of a dropped ROW", x.set(3, 0, 0), NULL);
    }

    private static void statusIsOfTheLatest() {
        TableShares x = new TableShares();
        due("status() at first", x.status(), 0);
        x.drop(0);
        due("status() after NULL", x.status(), 1);
        x.drop(8);
        due("status() after BAD", x.status(), 1);
        x.leaves(0, 0);
        due("status() after STATE", x.status(), 1);
        x.feed('t');
        x.table();
        x.count(0);
        due("status() after calls without a ROW", x.status(), 1);
        x.row(0, 0, -5);
        due("status() after SIZE", x.status(), 4);
        x.row(0, 0, 2);
        due("status() after a ROW", x.status(), 0);
        x.set(0, 2, 0);
        due("status() after PLACE", x.status(), 2);
        x.set(0, 1, 5);
        due("status() after set", x.status(), 0);
        x.row(1, 1, 2);
        x.copy(0, 0, 1, 0, 1);
        due("status() after STORE", x.status(), 5);
        x.copy(0, 0, 0, 1, 1);
        due("status() after copy", x.status(), 0);
        x.set(0, 2, 0);
        x.drop(1);
        due("status() after drop", x.status(), 0);
        table(x, "t2;a3,1;");
        x.as(0, 4);
        due("status() after KIND", x.status(), 3);
        x.as(1, 0);
        x.as(0, 6);
        due("status() after as that was BAD", x.status(), 3);
        x.as(0, 1);
        due("status() after as", x.status(), 0);
        x.leaves(1, 0);
        due("status() after leaves, NULL", x.status(), 1);
        x.leaves(0, 0);
        due("status() after leaves", x.status(), 0);
        x.which(0, 0, 2, 1);
        due("status() after which, PLACE", x.status(), 2);
        x.set(0, 0, 4);
        x.leaves(0, 1);
        x.which(0, 0, 0, 1);
        due("status() after which, BAD behind PLACE", x.status(), 2);
        x.which(0, 0, 0, 0);
        due("status() after which", x.status(), 0);
    }
}
