import java.util.function.IntUnaryOperator;
import java.util.function.ToIntBiFunction;
import java.util.function.ToIntFunction;

// The document's promises, piece by piece: each piece has a test that would fail if that piece alone were broken.
public final class PromisesTest {
    private static final int NONE = -1000000, BAD = -1000001, STATE = -1000002, FULL = -1000003;
    private static final int NULL = -1000011, PLACE = -1000012, KIND = -1000013, SIZE = -1000014, STORE = -1000015;
    private static final int FAULTS = -1000100;
    private static final int LEAST = Integer.MIN_VALUE, MOST = Integer.MAX_VALUE;
    private static final int[] NEITHER = {-1, 2, LEAST, MOST};
    private static final String EIGHT = "t2;a1,1;a1,2;a1,3;a1,4;a1,5;a1,6;a1,7;a1,8;";
    // WORTH by set, from none on: 4, 0, 0, 7, 0, 0, -5, 2.
    private static final String THREE = "t3;a3,7;q6,5;n7,4;";

    public static void main(String[] args) {
        aLongUse();
        newObject();
        row();
        set();
        copy();
        drop();
        feed();
        table();
        fault();
        away();
        tie();
        untie();
        meals();
        undo();
        tieHas();
        tableHas();
        worth();
        adds();
        due();
        missed();
        leaves();
        together();
        whoAway();
        enough();
        best();
        bring();
        which();
        colds();
        image();
        restore();
        kind();
        as();
        ask();
        trace();
        count();
        status();
        Said.end();
    }

    private static void due(String call, long got, long want) {
        Said.due(call, got, want);
    }

    private static TableShares read(String text) {
        return Seen.read(text);
    }

    private static TableShares readAndAway(String text, int... people) {
        TableShares x = read(text);
        for (int person : people) {
            x.away(person, 1);
        }
        return x;
    }

    private static TableShares noTable() {
        TableShares x = new TableShares();
        x.row(0, 2, 40);
        Seen.feed(x, "t2;");
        return x;
    }

    // The same call with each of some numbers.
    private static void dueOfEach(String call, int want, IntUnaryOperator with, int... numbers) {
        for (int number : numbers) {
            due(call + " with " + number, with.applyAsInt(number), want);
        }
    }

    // What a call changes where every look tells something, and the latest call with a ROW had no FINDING.
    private static void changes(String call, String want, ToIntFunction<TableShares> it) {
        String changed = Seen.changed(x -> {
            Seen.everything(x);
            x.set(0, 0, 0);
        }, it::applyAsInt);
        Said.due("what is changed by " + call, changed, want);
    }

    private static void aLongUse() {
        Said.under("## What it is").goingOnAt("An object is used")
        .says("An object is used for at most 512 calls after it has been made", () -> {
            TableShares x = read("t2;a3,7;y2,1;");
            for (int call = 15; call < 487; call++) {
                due("call " + call, x.away(1, call % 2), (call % 2) * 2);
            }
            for (int left = 23; left >= 0; left--) {
                due("undo()", x.undo(), left);
            }
            due("call 511", x.meals(1), 8);
            due("call 512", x.undo(), 0);
        });
    }

    private static void newObject() {
        Said.promise(1).says("No TABLE", () -> {
            TableShares x = new TableShares();
            Said.dueAll("a new object without a TABLE", STATE, x.tableHas(0), x.worth(0), x.meals(1), x.tie(1, 1, 1),
                    x.untie(), x.undo(), x.image(0), x.restore(0), x.restore(1));
            Said.dueAll("a new object without PEOPLE and TIES", BAD, x.away(0, 1), x.missed(0), x.kind(0), x.ask(0, 0));
            for (int what = 0; what <= 6; what++) {
                due("count(" + what + ")", x.count(what), 0);
            }
            due("fault()", x.fault(), 0);
            due("status()", x.status(), 0);
            due("trace(0)", x.trace(0), NONE);
        }).andNoMore();
    }

    // ---- rows

    private static void row() {
        Said.promise(2).says("A ROW of a LANE with n ITEMS", () -> {
            TableShares x = new TableShares();
            x.row(3, 1, 5);
            due("the last ITEM", x.set(3, 4, 300), 300);
            due("one behind", x.set(3, 5, 300), PLACE);
            due("a short", x.set(3, 0, 40000), 40000 - 65536);
            due("count(0)", x.count(0), 1);
            changes("row(5, 1, 2)", "row 5", y -> y.row(5, 1, 2));
        }).says("in place of what is there", () -> {
            TableShares x = read("t2;y3,1;");
            x.row(3, 2, 5);
            x.set(3, 0, 9);
            x.row(3, 0, 3);
            due("LANE", x.set(3, 2, 128), -128);
            due("ITEMS", x.set(3, 3, 0), PLACE);
            due("ITEM 0 is 0", x.leaves(3, 0), 1);
            due("count(0)", x.count(0), 1);
            changes("row(2, 2, 6)", "row 2", y -> y.row(2, 2, 6));
        }).says("n", () -> dueOfEach("what row(0, 0, n) answers, less n", 0,
                n -> new TableShares().row(0, 0, n) - n, 0, 1, 39, 40))
        .says("BAD: ROW", () -> dueOfEach("row(.., 0, 1)", BAD, n -> new TableShares().row(n, 0, 1), -1, 8, LEAST,
                MOST))
        .says("LANE", () -> dueOfEach("row(0, .., 1)", BAD, n -> new TableShares().row(0, n, 1), -1, 3, LEAST, MOST))
        .says("n above 40", () -> dueOfEach("row(0, 0, ..)", BAD, n -> new TableShares().row(0, 0, n), 41, MOST))
        .says("SIZE", () -> dueOfEach("row(0, 0, ..)", SIZE, n -> new TableShares().row(0, 0, n), -1, LEAST))
        .andNoMore();
    }

    private static TableShares aRow(int lane, int n) {
        TableShares x = new TableShares();
        x.row(0, lane, n);
        return x;
    }

    private static void set() {
        Said.promise(3).says("ITEM i becomes v", () -> {
            TableShares x = read("t2;a1,5;a2,5;");
            Seen.row(x, 0, 5, 5);
            due("leaves(0, 0)", x.leaves(0, 0), NONE);
            x.set(0, 1, 4);
            due("leaves(0, 0), 1 having less", x.leaves(0, 0), 2);
            x.set(0, 0, 4);
            due("leaves(0, 0), both having less", x.leaves(0, 0), 1);
            changes("set(1, 5, 0)", "row 1", y -> y.set(1, 5, 0));
        }).says("its lowest bits, as many as the LANE has", () -> {
            due("a byte", aRow(0, 1).set(0, 0, 0x1234567), 0x67);
            due("a short", aRow(1, 1).set(0, 0, 0x1234567), 0x4567);
            due("an int", aRow(2, 1).set(0, 0, 0x1234567), 0x1234567);
        }).says("read with their sign", () -> {
            due("a byte", aRow(0, 1).set(0, 0, 0x12380), -128);
            due("the least byte's neighbour", aRow(0, 1).set(0, 0, -129), 127);
            due("a short", aRow(1, 1).set(0, 0, 0x12388000), -32768);
            due("the least short's neighbour", aRow(1, 1).set(0, 0, -32769), 32767);
            due("an int", aRow(2, 1).set(0, 0, LEAST), LEAST);
        }).says("what it is then", () -> {
            due("a byte of 255", aRow(0, 1).set(0, 0, 255), -1);
            due("a byte of 127", aRow(0, 1).set(0, 0, 127), 127);
            due("an int", aRow(2, 1).set(0, 0, MOST), MOST);
        }).says("BAD: ROW", () -> dueOfEach("set(.., 0, 0)", BAD, n -> aRow(0, 1).set(n, 0, 0), -1, 8, LEAST, MOST))
        .says("NULL", () -> dueOfEach("set(.., 0, 0)", NULL, n -> aRow(0, 1).set(n, 0, 0), 1, 7))
        .says("PLACE", () -> {
            dueOfEach("set(0, .., 0) of three", PLACE, n -> aRow(0, 3).set(0, n, 0), -1, 3, 39, 40, LEAST, MOST);
            dueOfEach("set(0, .., 0) of none", PLACE, n -> aRow(0, 0).set(0, n, 0), -1, 0);
            dueOfEach("set(0, .., 7) of forty", 7, n -> aRow(0, 40).set(0, n, 7), 0, 39);
        }).andNoMore();
    }

    // ROW 0 of five and ROW 1 of four ints, ROW 2 of two shorts.
    private static TableShares threeRows() {
        TableShares x = new TableShares();
        Seen.row(x, 0, 10, 11, 12, 13, 14);
        Seen.row(x, 1, 20, 21, 22, 23);
        x.row(2, 1, 2);
        return x;
    }

    // An ITEM is what WORTH is as much, but not more, for somebody alone.
    private static void dueItems(TableShares x, int row, int... items) {
        for (int i = 0; i + 1 < items.length; i++) {
            Seen.read(x, "t2;a1," + items[i] + ";");
            due("leaves of ITEM " + i + " of ROW " + row + ", less", x.leaves(row, i), NONE);
            Seen.read(x, "t2;a1," + (items[i] + 1) + ";");
            due("leaves of ITEM " + i + " of ROW " + row + ", more", x.leaves(row, i), 1);
        }
        int last = items.length - 1;
        Seen.read(x, "t2;a2," + items[last] + ";");
        due("leaves of the last ITEM of ROW " + row + ", less", x.leaves(row, last - 1), NONE);
        Seen.read(x, "t2;a2," + (items[last] + 1) + ";");
        due("leaves of the last ITEM of ROW " + row + ", more", x.leaves(row, last - 1), 2);
    }

    private static void copy() {
        Said.promise(4).says("n ITEMS of a from i on come to b from j on", () -> {
            TableShares x = threeRows();
            x.copy(0, 1, 1, 2, 2);
            dueItems(x, 1, 20, 21, 11, 12);
            dueItems(x, 0, 10, 11, 12, 13, 14);
            changes("copy(0, 0, 0, 2, 3)", "row 0", y -> y.copy(0, 0, 0, 2, 3));
            changes("copy(0, 0, 0, 2, 0)", "", y -> y.copy(0, 0, 0, 2, 0));
        }).says("as they were ahead", () -> {
            TableShares x = threeRows();
            x.copy(0, 0, 0, 1, 4);
            dueItems(x, 0, 10, 10, 11, 12, 13);
            x = threeRows();
            x.copy(0, 2, 0, 0, 3);
            dueItems(x, 0, 12, 13, 14, 13, 14);
            x = threeRows();
            x.copy(0, 0, 0, 0, 5);
            dueItems(x, 0, 10, 11, 12, 13, 14);
        }).says("n", () -> dueOfEach("what copy(0, 0, 1, 0, n) answers, less n", 0,
                n -> threeRows().copy(0, 0, 1, 0, n) - n, 0, 1, 4))
        .says("BAD: ROWS", () -> {
            dueOfEach("copy(.., 0, 0, 0, 0)", BAD, n -> threeRows().copy(n, 0, 0, 0, 0), -1, 8, LEAST, MOST);
            dueOfEach("copy(0, 0, .., 0, 0)", BAD, n -> threeRows().copy(0, 0, n, 0, 0), -1, 8, LEAST, MOST);
        }).says("NULL", () -> {
            dueOfEach("copy(.., 0, 0, 0, 0)", NULL, n -> threeRows().copy(n, 0, 0, 0, 0), 3, 7);
            dueOfEach("copy(0, 0, .., 0, 0)", NULL, n -> threeRows().copy(0, 0, n, 0, 0), 3, 7);
            due("copy(3, 0, 3, 0, 0)", threeRows().copy(3, 0, 3, 0, 0), NULL);
        }).says("STORE", () -> {
            due("copy(0, 0, 2, 0, 1)", threeRows().copy(0, 0, 2, 0, 1), STORE);
            due("copy(2, 0, 0, 0, 0)", threeRows().copy(2, 0, 0, 0, 0), STORE);
        }).says("PLACE (i, j, n below 0", () -> {
            dueOfEach("copy(0, .., 1, 0, 1)", PLACE, n -> threeRows().copy(0, n, 1, 0, 1), -1, LEAST);
            dueOfEach("copy(0, 0, 1, .., 1)", PLACE, n -> threeRows().copy(0, 0, 1, n, 1), -1, LEAST);
            dueOfEach("copy(0, 1, 1, 1, ..)", PLACE, n -> threeRows().copy(0, 1, 1, 1, n), -1, LEAST);
            dueOfEach("copy(0, .., 1, 0, 0)", PLACE, n -> threeRows().copy(0, n, 1, 0, 0), -1);
            dueOfEach("copy(0, 0, 1, .., 0)", PLACE, n -> threeRows().copy(0, 0, 1, n, 0), -1);
        }).says("or beyond an end", () -> {
            due("copy(0, 3, 1, 0, 3)", threeRows().copy(0, 3, 1, 0, 3), PLACE);
            due("copy(0, 0, 1, 2, 3)", threeRows().copy(0, 0, 1, 2, 3), PLACE);
            due("copy(0, 6, 1, 0, 0)", threeRows().copy(0, 6, 1, 0, 0), PLACE);
            due("copy(0, 0, 1, 5, 0)", threeRows().copy(0, 0, 1, 5, 0), PLACE);
            due("copy(0, 5, 1, 4, 0), right at the ends", threeRows().copy(0, 5, 1, 4, 0), 0);
            due("copy(0, 3, 1, 2, 2), up to the ends", threeRows().copy(0, 3, 1, 2, 2), 2);
            dueOfEach("copy(0, 1, 1, 0, ..)", PLACE, n -> threeRows().copy(0, 1, 1, 0, n), MOST, MOST - 1);
            dueOfEach("copy(0, .., 1, 0, 2)", PLACE, n -> threeRows().copy(0, n, 1, 0, 2), MOST, MOST - 1);
            dueOfEach("copy(0, 0, 1, .., 2)", PLACE, n -> threeRows().copy(0, 0, 1, n, 2), MOST, MOST - 1);
        }).andNoMore();
    }

    private static void drop() {
        Said.promise(5).says("A ROW is missing from now on", () -> {
            TableShares x = aRow(0, 3);
            x.drop(0);
            due("set(0, 0, 0)", x.set(0, 0, 0), NULL);
            due("count(0)", x.count(0), 0);
            due("drop(0) again", x.drop(0), NULL);
            changes("drop(2)", "row 2", y -> y.drop(2));
        }).says("how many ITEMS it had", () -> dueOfEach("what drop(0) answers, less n", 0, n -> aRow(1, n).drop(0) - n,
                0, 1, 40))
        .says("BAD", () -> dueOfEach("drop(..)", BAD, n -> aRow(0, 1).drop(n), -1, 8, LEAST, MOST))
        .says("NULL", () -> dueOfEach("drop(..)", NULL, n -> aRow(0, 1).drop(n), 1, 7)).andNoMore();
    }

    // ---- tables, acts

    private static TableShares fed(int bytes) {
        TableShares x = new TableShares();
        Seen.feed(x, "x".repeat(bytes));
        return x;
    }

    private static void feed() {
        Said.promise(6).says("A byte (0 to 255) comes behind the tape", () -> {
            dueOfEach("feed(..)", 1, n -> fed(0).feed(n), 0, 1, 127, 128, 255);
            TableShares x = new TableShares();
            x.feed('t');
            x.feed('5');
            x.feed(';');
            x.table();
            due("count(1)", x.count(1), 5);
            changes("feed(49)", "tape", y -> y.feed('1'));
        }).says("how many it has", () -> dueOfEach("what feed answers, less the bytes ahead", 1,
                n -> fed(n).feed('t') - n, 0, 1, 118, 119))
        .says("BAD", () -> {
            dueOfEach("feed(..)", BAD, n -> fed(0).feed(n), -1, 256, LEAST, MOST);
            due("feed(256) of a full tape", fed(120).feed(256), BAD);
        }).says("FULL", () -> {
            due("feed of a full tape", fed(120).feed('t'), FULL);
            due("feed of a tape with room for one", fed(119).feed('t'), 120);
        }).andNoMore();
    }

    private static void table() {
        Said.promise(7).says("The tape, empty then, is read", () -> {
            TableShares x = read("t4;y5,6;");
            due("PEOPLE", x.count(1), 4);
            due("KIND", x.kind(0), 4);
            due("count(6)", x.count(6), 0);
            due("table() again", x.table(), FAULTS);
            changes("a TABLE read", "tape, table, ties, acts", y -> {
                Seen.feed(y, "0;");
                return y.table();
            });
        }).says("how many TIES there are", () -> {
            due("none", Seen.read(new TableShares(), "t2;"), 0);
            due("one", Seen.read(new TableShares(), "t2;a1,1;"), 1);
            due("eight", Seen.read(new TableShares(), EIGHT), 8);
        }).says("-1000100 less the place of a FAULT", () -> {
            due("place 0", Seen.read(new TableShares(), "x"), -1000100);
            due("place 3", Seen.read(new TableShares(), "t2;x"), -1000103);
            due("place 59, of a full tape", Seen.read(new TableShares(), "t6;" + "a63,00;".repeat(8) + "x".repeat(61)),
                    -1000159);
        }).says("all but the tape, that is empty then, and what fault() tells stays", () -> {
            changes("a FAULT", "tape, fault", y -> {
                Seen.feed(y, "0;x");
                return y.table();
            });
            changes("a FAULT in the law", "tape, fault", y -> {
                y.table();
                return Seen.read(y, "t6!");
            });
        }).andNoMore();
    }

    private static void fault() {
        Said.promise(8).says("The number of the latest FAULT", () -> {
            TableShares x = new TableShares();
            Seen.read(x, "t9;");
            due("fault() of a NUMBER", x.fault(), 2);
            Seen.read(x, "x");
            due("fault() of a letter", x.fault(), 1);
            Seen.read(x, EIGHT + "a");
            due("fault() of a tie too many", x.fault(), 3);
            Seen.read(x, "t2;");
            due("fault() after a TABLE", x.fault(), 3);
            changes("fault()", "", y -> y.fault());
        }).says("0 before one", () -> {
            due("fault() of a new object", new TableShares().fault(), 0);
            due("fault() after a TABLE", read("t2;").fault(), 0);
        }).andNoMore();
    }

    private static void away() {
        Said.promise(9).says("Somebody is AWAY (1)", () -> {
            TableShares x = readAndAway("t3;", 1);
            due("who are there", x.tableHas(0), 5);
            changes("away(0, 1)", "table, acts", y -> y.away(0, 1));
        }).says("or comes back (0)", () -> {
            TableShares x = readAndAway("t3;", 1, 2);
            x.away(1, 0);
            due("who are there", x.tableHas(0), 3);
            changes("away(3, 0)", "table, acts", y -> y.away(3, 0));
        }).says("who are AWAY (bits)", () -> {
            TableShares x = read("t6;");
            due("away(5, 1)", x.away(5, 1), 32);
            due("away(0, 1)", x.away(0, 1), 33);
            due("away(5, 0)", x.away(5, 0), 1);
            due("away(0, 0)", x.away(0, 0), 0);
        }).says("BAD", () -> {
            dueOfEach("away(.., 1)", BAD, n -> read("t3;").away(n, 1), -1, 3, 6, 32, LEAST, MOST);
            dueOfEach("away(.., 0)", BAD, n -> read("t3;").away(n, 0), -1, 3, 6, 32, LEAST, MOST);
            dueOfEach("away(0, ..)", BAD, n -> read("t3;").away(0, n), NEITHER);
            due("away(0, 1) of no TABLE", noTable().away(0, 1), BAD);
        }).says("STATE: it is so", () -> {
            due("away(1, 1) of one AWAY", readAndAway("t3;", 1).away(1, 1), STATE);
            due("away(1, 0) of one there", readAndAway("t3;", 0, 2).away(1, 0), STATE);
        }).andNoMore();
    }

    private static void tie() {
        Said.promise(10).says("A TIE is told", () -> {
            TableShares x = read("t3;a1,1;");
            x.tie(5, 6, 9);
            due("KIND", x.kind(1), 5);
            due("SET", x.tieHas(1, 0), 6);
            due("WORTH", x.tieHas(1, 1), 9);
            due("worth(1)", x.worth(1), 10);
            changes("tie(2, 1, 0)", "ties, acts", y -> y.tie(2, 1, 0));
        }).says("KIND 1 to 5", () -> {
            dueOfEach("tie(.., 1, 1)", 0, n -> read("t3;").tie(n, 1, 1), 1, 2, 3, 4, 5);
            dueOfEach("tie(.., 1, 1)", BAD, n -> read("t3;").tie(n, 1, 1), -1, 0, 6, LEAST, MOST);
        }).says("SET", () -> {
            dueOfEach("tie(1, .., 1)", 0, n -> read("t3;").tie(1, n, 1), 1, 2, 4, 7);
            dueOfEach("tie(1, .., 1)", BAD, n -> read("t3;").tie(1, n, 1), -1, 0, 8, LEAST, MOST);
            due("tie(1, 63, 1) of six", read("t6;").tie(1, 63, 1), 0);
            due("tie(1, 64, 1) of six", read("t6;").tie(1, 64, 1), BAD);
        }).says("WORTH 0 to 40", () -> {
            dueOfEach("tie(1, 1, ..)", 0, n -> read("t3;").tie(1, 1, n), 0, 1, 40);
            dueOfEach("tie(1, 1, ..)", BAD, n -> read("t3;").tie(1, 1, n), -1, 41, LEAST, MOST);
        }).says("its number", () -> {
            TableShares x = read("t2;");
            for (int tie = 0; tie < 8; tie++) {
                due("tie(1, 1, 1)", x.tie(1, 1, 1), tie);
            }
        }).says("BAD", () -> {
            TableShares x = read("t2;");
            Said.dueAll("tie that is not as told", BAD, x.tie(0, 1, 1), x.tie(1, 0, 1), x.tie(1, 4, 1),
                    x.tie(1, 1, 41), x.tie(0, 0, -1));
        }).says("STATE: no TABLE", () -> due("tie(1, 1, 1)", noTable().tie(1, 1, 1), STATE))
        .says("ahead of BAD", () -> {
            due("tie(0, 1, 1)", noTable().tie(0, 1, 1), STATE);
            due("tie(1, 0, 1)", noTable().tie(1, 0, 1), STATE);
            due("tie(1, 1, 41)", noTable().tie(1, 1, 41), STATE);
        }).says("FULL: there are 8", () -> {
            due("a ninth", read(EIGHT).tie(1, 1, 1), FULL);
            due("a ninth, BAD", read(EIGHT).tie(1, 1, 41), BAD);
            TableShares x = read(EIGHT);
            x.untie();
            due("an eighth", x.tie(1, 1, 1), 7);
        }).andNoMore();
    }

    private static void untie() {
        Said.promise(11).says("The last TIE is undone", () -> {
            TableShares x = read("t2;a1,1;a2,2;a3,3;");
            x.untie();
            due("kind(2)", x.kind(2), BAD);
            due("WORTH of the one ahead", x.tieHas(1, 1), 2);
            due("worth(3)", x.worth(3), 3);
            changes("untie()", "table, ties, acts", y -> y.untie());
        }).says("how many there are", () -> {
            TableShares x = read("t2;a1,1;a2,2;");
            due("untie() of two", x.untie(), 1);
            due("untie() of one", x.untie(), 0);
        }).says("STATE: there is none", () -> {
            due("untie() of no TIES", read("t2;").untie(), STATE);
            due("untie() of no TABLE", noTable().untie(), STATE);
        }).andNoMore();
    }

    private static TableShares withMeals(int meals) {
        TableShares x = read("t2;a1,2;");
        for (int left = meals; left > 0; left -= 20) {
            x.meals(Math.min(left, 20));
        }
        return x;
    }

    private static void meals() {
        Said.promise(12).says("n MEALS (1 to 20)", () -> {
            TableShares x = read("t2;a1,2;");
            x.meals(1);
            due("MEALS", x.tableHas(3), 1);
            x.meals(20);
            due("MEALS", x.tableHas(3), 21);
            due("SPOKEN", x.tableHas(4), 42);
            changes("meals(3)", "table, acts", y -> y.meals(3));
        }).says("an ACT each", () -> {
            TableShares x = withMeals(3);
            due("count(5)", x.count(5), 3);
            due("undo()", x.undo(), 2);
            due("MEALS", x.count(3), 2);
            due("SPOKEN", x.tableHas(4), 4);
        }).says("what is SPOKEN", () -> {
            TableShares x = read("t2;a3,7;q1,9;");
            due("meals(2), each 2 below 0", x.meals(2), -4);
            x.away(0, 1);
            due("meals(1) of nothing", x.meals(1), -4);
        }).says("BAD", () -> dueOfEach("meals(..)", BAD, n -> read("t2;").meals(n), -1, 0, 21, LEAST, MOST))
        .says("STATE: no TABLE", () -> due("meals(1)", noTable().meals(1), STATE))
        .says("ahead of BAD", () -> dueOfEach("meals(..)", STATE, n -> noTable().meals(n), -1, 0, 21))
        .says("FULL: MEALS would be more than 999", () -> {
            due("meals(20) of 979", withMeals(979).meals(20), 2 * 999);
            due("meals(20) of 980", withMeals(980).meals(20), FULL);
            due("meals(1) of 999", withMeals(999).meals(1), FULL);
            due("meals(1) of 998", withMeals(998).meals(1), 2 * 999);
        }).andNoMore();
    }

    private static void undo() {
        Said.promise(13).says("The latest ACT is undone", () -> {
            TableShares x = readAndAway("t2;a1,1;", 0);
            x.tie(1, 2, 5);
            x.undo();
            due("TIES", x.count(2), 1);
            due("AWAY", x.count(4), 1);
            x.undo();
            due("AWAY", x.count(4), 0);
            changes("undo() of an untie()", "table, ties, acts", y -> y.undo());
        }).says("how many can be undone yet", () -> {
            TableShares x = withMeals(30);
            due("undo() of 24 of 30", x.undo(), 23);
            due("undo()", x.undo(), 22);
            TableShares one = withMeals(1);
            due("undo() of one", one.undo(), 0);
        }).says("STATE: none", () -> {
            due("undo() of no ACTS", read("t2;a1,1;").undo(), STATE);
            due("undo() of no TABLE", noTable().undo(), STATE);
            TableShares x = withMeals(1);
            x.undo();
            due("undo() of an ACT undone", x.undo(), STATE);
        }).andNoMore();
    }

    private static void tieHas() {
        Said.promise(14).says("Of a TIE: 0 SET", () -> {
            due("tieHas(0, 0)", read("t3;a6,7;y1,2;").tieHas(0, 0), 6);
            due("tieHas(1, 0)", read("t3;a6,7;y1,2;").tieHas(1, 0), 1);
        }).says("1 WORTH", () -> {
            due("tieHas(0, 1)", read("t3;q6,7;y1,2;").tieHas(0, 1), 7);
            due("tieHas(1, 1)", read("t3;q6,7;y1,2;").tieHas(1, 1), 2);
        }).says("2 what it counts now", () -> {
            TableShares x = read("t3;q6,7;m7,2;n4,3;");
            due("a quarrel", x.tieHas(0, 2), -7);
            due("more", x.tieHas(1, 2), 4);
            due("nobody", x.tieHas(2, 2), 0);
            x.away(2, 1);
            due("a quarrel, 2 being AWAY", x.tieHas(0, 2), 0);
            due("more, 2 being AWAY", x.tieHas(1, 2), 2);
            due("nobody, 2 being AWAY", x.tieHas(2, 2), 3);
            changes("tieHas(0, 2)", "", y -> y.tieHas(0, 2));
        }).says("BAD", () -> {
            dueOfEach("tieHas(.., 0)", BAD, n -> read("t3;a1,1;").tieHas(n, 0), -1, 1, 8, LEAST, MOST);
            dueOfEach("tieHas(0, ..)", BAD, n -> read("t3;a1,1;").tieHas(0, n), -1, 3, LEAST, MOST);
            due("tieHas(0, 0) of no TABLE", noTable().tieHas(0, 0), BAD);
        }).andNoMore();
    }

    private static void tableHas() {
        Said.promise(15).says("0 who are there (bits)", () -> {
            due("all", read("t5;").tableHas(0), 31);
            due("all but 1 and 4", readAndAway("t5;", 1, 4).tableHas(0), 13);
            due("nobody", readAndAway("t2;", 0, 1).tableHas(0), 0);
        }).says("1 what they are WORTH", () -> {
            due("all", read(THREE).tableHas(1), 2);
            due("all but 2", readAndAway(THREE, 2).tableHas(1), 7);
            due("nobody", readAndAway(THREE, 0, 1, 2).tableHas(1), 4);
        }).says("2 what all PEOPLE are WORTH", () -> due("without 2", readAndAway(THREE, 2).tableHas(2), 2))
        .says("3 MEALS", () -> due("of 999", withMeals(999).tableHas(3), 999))
        .says("4 SPOKEN", () -> {
            TableShares x = read("t2;a3,7;");
            x.meals(2);
            x.away(0, 1);
            x.meals(3);
            due("2 of 7, 3 of nothing", x.tableHas(4), 14);
            changes("tableHas(4)", "", y -> y.tableHas(4));
        }).says("BAD", () -> dueOfEach("tableHas(..)", BAD, n -> read("t2;").tableHas(n), -1, 5, LEAST, MOST))
        .says("STATE: no TABLE", () -> dueOfEach("tableHas(..)", STATE, n -> noTable().tableHas(n), 0, 1, 2, 3, 4))
        .says("ahead of BAD", () -> dueOfEach("tableHas(..)", STATE, n -> noTable().tableHas(n), -1, 5)).andNoMore();
    }

    // ---- foretold

    private static void worth() {
        Said.promise(16).says("What a set is WORTH", () -> {
            TableShares x = readAndAway(THREE, 0, 1, 2);
            int[] worths = {4, 0, 0, 7, 0, 0, -5, 2};
            for (int set = 0; set < 8; set++) {
                due("worth(" + set + ")", x.worth(set), worths[set]);
            }
        }).says("BAD", () -> dueOfEach("worth(..)", BAD, n -> read(THREE).worth(n), -1, 8, 63, LEAST, MOST))
        .says("STATE: no TABLE", () -> due("worth(0)", noTable().worth(0), STATE))
        .says("ahead of BAD", () -> dueOfEach("worth(..)", STATE, n -> noTable().worth(n), -1, 1, 64)).andNoMore();
    }

    private static void adds() {
        Said.promise(17).says("ADDS", () -> {
            due("adds(0, 2)", readAndAway(THREE, 0).adds(0, 2), 7);
            due("adds(2, 2)", readAndAway(THREE, 0).adds(2, 2), -5);
            due("adds(1, 0)", readAndAway(THREE, 0).adds(1, 0), -4);
        }).says("BAD: it is in the set, too", () -> {
            dueOfEach("adds(1, ..), in it", BAD, n -> read(THREE).adds(1, n), 2, 3, 6, 7);
            dueOfEach("adds(0, ..), no set", BAD, n -> read(THREE).adds(0, n), -1, -2, 8, LEAST, MOST - 1);
            dueOfEach("adds(.., 0), nobody", BAD, n -> read(THREE).adds(n, 0), -1, 3, 32, LEAST, MOST);
            due("adds(0, 0) of no TABLE", noTable().adds(0, 0), BAD);
        }).andNoMore();
    }

    private static void due() {
        Said.promise(18).says("DUE: above (what = 0)", () -> {
            due("due(0, 0) of 7 by 2", read("t2;a3,7;").due(0, 0), 7);
            due("due(0, 0) of 7 by 3 below 0", read("t3;q7,7;").due(0, 0), -7);
        }).says("below (1)", () -> {
            due("due(0, 1) of 7 by 2", read("t2;a3,7;").due(0, 1), 2);
            due("due(0, 1) of 7 by 3 below 0", read("t3;q7,7;").due(0, 1), 3);
            due("due(0, 1) of 7", read("t2;a1,7;").due(0, 1), 1);
        }).says("BAD", () -> {
            dueOfEach("due(.., 0)", BAD, n -> read("t3;").due(n, 0), -1, 3, 32, LEAST, MOST);
            dueOfEach("due(0, ..)", BAD, n -> read("t3;").due(0, n), NEITHER);
            due("due(0, 0) of no TABLE", noTable().due(0, 0), BAD);
        }).andNoMore();
    }

    private static void missed() {
        Said.promise(19).says("MISSED", () -> {
            due("missed(0)", readAndAway(THREE, 1).missed(0), 7);
            due("missed(1)", readAndAway(THREE, 1).missed(1), 2);
            due("missed(2)", readAndAway(THREE, 1).missed(2), -5);
        }).says("BAD", () -> {
            dueOfEach("missed(..)", BAD, n -> read("t3;").missed(n), -1, 3, 32, LEAST, MOST);
            due("missed(0) of no TABLE", noTable().missed(0), BAD);
        }).andNoMore();
    }

    // Two of WORTH 5 and 3 alone, and what they are given from place 1 on of four.
    private static TableShares given(int first, int second) {
        TableShares x = read("t2;a1,5;a2,3;");
        Seen.row(x, 3, 0, first, second, 0);
        return x;
    }

    private static void leaves() {
        Said.promise(20).says("LEAVES, as many ITEMS as PEOPLE", () -> {
            due("leaves(3, 1)", given(5, 2).leaves(3, 1), 2);
            due("leaves(3, 2) up to the end", given(9, 5).leaves(3, 2), 2);
            due("leaves(3, 3) beyond the end", given(5, 5).leaves(3, 3), PLACE);
            TableShares six = read("t6;a32,5;");
            Seen.row(six, 0, 0, 0, 0, 0, 0, 4);
            due("leaves(0, 0) of six", six.leaves(0, 0), 32);
        }).says("of a ROW from i on", () -> {
            due("leaves(3, 0)", given(9, 9).leaves(3, 0), 1);
            due("leaves(3, 1)", given(9, 2).leaves(3, 1), 2);
            due("leaves(3, 2)", given(0, 9).leaves(3, 2), 2);
        }).says("NONE", () -> due("leaves(3, 1)", given(5, 3).leaves(3, 1), NONE))
        .says("BAD: ROW", () -> dueOfEach("leaves(.., 0)", BAD, n -> given(1, 1).leaves(n, 0), -1, 8, LEAST, MOST))
        .says("STATE: no TABLE", () -> due("leaves(0, 0)", noTable().leaves(0, 0), STATE))
        .says("ahead of BAD", () -> dueOfEach("leaves(.., 0)", STATE, n -> noTable().leaves(n, 0), -1, 8, 5))
        .says("NULL", () -> dueOfEach("leaves(.., 9)", NULL, n -> given(1, 1).leaves(n, 9), 0, 7))
        .says("PLACE", () -> dueOfEach("leaves(3, ..)", PLACE, n -> given(1, 1).leaves(3, n), -1, 3, 4, 40, LEAST,
                MOST, MOST - 1)).andNoMore();
    }

    // Of a call that takes 0 or 1: without a TABLE it is STATE with any number.
    private static void needsTable(Said said, String name, ToIntBiFunction<TableShares, Integer> call, int... bad) {
        said.says("STATE: no TABLE", () -> dueOfEach(name, STATE, n -> call.applyAsInt(noTable(), n), 0, 1))
        .says("ahead of BAD", () -> dueOfEach(name, STATE, n -> call.applyAsInt(noTable(), n), bad)).andNoMore();
    }

    private static void together() {
        Said said = Said.promise(21).says("TOGETHER: how many (what = 0)", () -> {
            due("together(0)", readAndAway("t4;y3,5;y12,1;", 0).together(0), 2);
            due("together(0) of none", read("t4;").together(0), 0);
        }).says("the first (1)", () -> {
            due("together(1)", readAndAway("t4;y12,5;y3,1;", 0).together(1), 1);
            due("together(1)", read("t4;y12,5;").together(1), 23);
            due("together(1) of none", read("t4;").together(1), NONE);
        }).says("BAD", () -> dueOfEach("together(..)", BAD, n -> read("t4;").together(n), NEITHER));
        needsTable(said, "together(..)", (x, n) -> x.together(n), NEITHER);
    }

    private static void whoAway() {
        Said said = Said.promise(22).says("AWAY: how many (what = 0)", () -> {
            due("whoAway(0, 0)", readAndAway(THREE, 0).whoAway(0, 0), 4);
            due("whoAway(3, 0)", readAndAway(THREE, 0).whoAway(3, 0), 0);
        }).says("the least (1", () -> {
            due("whoAway(0, 1)", readAndAway(THREE, 0).whoAway(0, 1), 2);
            due("whoAway(7, 1)", readAndAway(THREE, 0).whoAway(7, 1), 4);
        }).says("NONE", () -> due("whoAway(3, 1)", readAndAway(THREE, 0).whoAway(3, 1), NONE))
        .says("BAD: v not -999 to 9999", () -> {
            dueOfEach("whoAway(.., 0)", BAD, n -> read(THREE).whoAway(n, 0), -1000, 10000, LEAST, MOST);
            dueOfEach("whoAway(.., 1)", BAD, n -> read(THREE).whoAway(n, 1), -1000, 10000, LEAST, MOST);
            dueOfEach("whoAway(.., 0)", 0, n -> read(THREE).whoAway(n, 0), -999, 9999);
        }).says("what", () -> dueOfEach("whoAway(0, ..)", BAD, n -> read(THREE).whoAway(0, n), NEITHER));
        needsTable(said, "whoAway(n, n)", (x, n) -> x.whoAway(n, n), -1000, -1, 2, 10000);
    }

    private static void enough() {
        Said said = Said.promise(23).says("ENOUGH: how many (what = 0)", () -> {
            due("enough(5, 0)", readAndAway(THREE, 0).enough(5, 0), 2);
            due("enough(4, 0)", readAndAway(THREE, 0).enough(4, 0), 0);
        }).says("which (1)", () -> {
            due("enough(5, 1)", readAndAway(THREE, 0).enough(5, 1), 3);
            due("enough(4, 1)", readAndAway(THREE, 0).enough(4, 1), 0);
        }).says("NONE", () -> {
            due("enough(8, 0)", read(THREE).enough(8, 0), NONE);
            due("enough(8, 1)", read(THREE).enough(8, 1), NONE);
        }).says("BAD: v not -999 to 9999", () -> {
            dueOfEach("enough(.., 0)", BAD, n -> read(THREE).enough(n, 0), -1000, 10000, LEAST, MOST);
            dueOfEach("enough(.., 1)", BAD, n -> read(THREE).enough(n, 1), -1000, 10000, LEAST, MOST);
            due("enough(-999, 0)", read(THREE).enough(-999, 0), 0);
            due("enough(9999, 0)", read(THREE).enough(9999, 0), NONE);
        }).says("what", () -> dueOfEach("enough(0, ..)", BAD, n -> read(THREE).enough(0, n), NEITHER));
        needsTable(said, "enough(n, n)", (x, n) -> x.enough(n, n), -1000, -1, 2, 10000);
    }

    private static void best() {
        Said said = Said.promise(24).says("BEST: which (what = 0)", () -> {
            due("best(0)", readAndAway(THREE, 0).best(0), 3);
            due("best(0) of nothing", read("t2;").best(0), 0);
        }).says("how much (1)", () -> {
            due("best(1)", readAndAway(THREE, 0).best(1), 7);
            due("best(1) of nothing", read("t2;").best(1), 0);
        }).says("BAD", () -> dueOfEach("best(..)", BAD, n -> read(THREE).best(n), NEITHER));
        needsTable(said, "best(..)", (x, n) -> x.best(n), NEITHER);
    }

    private static void bring() {
        Said said = Said.promise(25).says("BRING: who (what = 0)", () -> {
            due("bring(0)", readAndAway(THREE, 0, 2).bring(0), 0);
            due("bring(0)", readAndAway(THREE, 2).bring(0), 2);
        }).says("how much (1)", () -> {
            due("bring(1)", readAndAway(THREE, 0, 2).bring(1), 7);
            due("bring(1)", readAndAway(THREE, 2).bring(1), -5);
        }).says("NONE", () -> {
            due("bring(0)", read(THREE).bring(0), NONE);
            due("bring(1)", read(THREE).bring(1), NONE);
        }).says("BAD", () -> dueOfEach("bring(..)", BAD, n -> readAndAway(THREE, 0).bring(n), NEITHER));
        needsTable(said, "bring(..)", (x, n) -> x.bring(n), NEITHER);
    }

    // Two TIES, and MEALS from place 1 on: both there, WORTH 7; 0 alone, WORTH 0; then no set of PEOPLE.
    private static TableShares seen() {
        TableShares x = read("t2;a3,7;y3,0;");
        Seen.row(x, 3, 9, 3, 7, 1, 0, 4, 7, -1, 7);
        return x;
    }

    private static void which() {
        Said.promise(26).says("WHICH, 2 n ITEMS of a ROW from i on", () -> {
            due("which(0, 3, 1, 1)", seen().which(0, 3, 1, 1), 1 << 1 | 1 << 3 | 1 << 4);
            due("which(0, 3, 1, 2)", seen().which(0, 3, 1, 2), 1 << 1 | 1 << 3);
            due("which(0, 3, 3, 1)", seen().which(0, 3, 3, 1), 62 & ~(1 << 4));
            due("which(0, 3, 9, 0) at the end", seen().which(0, 3, 9, 0), 62);
            changes("which(0, 2, 1, 1)", "", y -> y.which(0, 2, 1, 1));
        }).says("BAD: TIE", () -> {
            dueOfEach("which(.., 3, 1, 1)", BAD, n -> seen().which(n, 3, 1, 1), -1, 2, 8, LEAST, MOST);
            due("which(0, 0, 0, 0) of no TABLE", noTable().which(0, 0, 0, 0), BAD);
        }).says("ROW", () -> dueOfEach("which(0, .., 1, 1)", BAD, n -> seen().which(0, n, 1, 1), -1, 8, LEAST, MOST))
        .says("n", () -> dueOfEach("which(0, 3, 1, ..)", BAD, n -> seen().which(0, 3, 1, n), -1, 11, LEAST, MOST))
        .says("NULL", () -> dueOfEach("which(0, .., 99, 10)", NULL, n -> seen().which(0, n, 99, 10), 0, 7))
        .says("PLACE", () -> {
            dueOfEach("which(0, 3, .., 1)", PLACE, n -> seen().which(0, 3, n, 1), -1, 8, 9, LEAST, MOST, MOST - 1);
            dueOfEach("which(0, 3, .., 0)", PLACE, n -> seen().which(0, 3, n, 0), -1, 10, LEAST, MOST);
            due("which(0, 3, 0, 5)", seen().which(0, 3, 0, 5), PLACE);
        }).says("then BAD: an ITEM that is no set of PEOPLE where it ought to be", () -> {
            due("which(0, 3, 5, 1) of 4", seen().which(0, 3, 5, 1), BAD);
            due("which(0, 3, 7, 1) of -1", seen().which(0, 3, 7, 1), BAD);
            due("which(0, 3, 0, 1) of 9", seen().which(0, 3, 0, 1), BAD);
            due("which(0, 3, 1, 3), the third", seen().which(0, 3, 1, 3), BAD);
            TableShares no = seen();
            no.set(3, 4, 99);
            due("which(0, 3, 3, 2), no KIND being left", no.which(0, 3, 3, 2), BAD);
            due("which(0, 3, 4, 1), WORTH 4", seen().which(0, 3, 4, 1), 0);
            due("which(0, 3, 0, 5), PLACE ahead of it", seen().which(0, 3, 0, 5), PLACE);
            TableShares x = seen();
            x.drop(5);
            x.which(0, 3, 5, 1);
            due("status() of the call before", x.status(), 1);
        }).andNoMore();
    }

    private static void colds() {
        Said said = Said.promise(27).says("COLDS (v -999 to 9999", () -> {
            due("colds(-999, 3, 0)", read(THREE).colds(-999, 3, 0), 1);
            due("colds(9999, 3, 0)", read(THREE).colds(9999, 3, 0), 0);
            dueOfEach("colds(.., 3, 0)", BAD, n -> read(THREE).colds(n, 3, 0), -1000, 10000, LEAST, MOST);
        }).says("c 0 to 10", () -> {
            due("colds(2, 0, 0)", read(THREE).colds(2, 0, 0), 1);
            due("colds(4, 10, 0)", read(THREE).colds(4, 10, 0), 1);
            due("colds(5, 10, 0)", read(THREE).colds(5, 10, 0), 0);
            dueOfEach("colds(0, .., 0)", BAD, n -> read(THREE).colds(0, n, 0), -1, 11, LEAST, MOST);
        }).says("above (what = 0)", () -> due("colds(7, 3, 0)", read(THREE).colds(7, 3, 0), 147))
        .says("below (1)", () -> due("colds(7, 3, 1)", read(THREE).colds(7, 3, 1), 1000))
        .says("BAD", () -> dueOfEach("colds(0, 0, ..)", BAD, n -> read(THREE).colds(0, 0, n), NEITHER));
        needsTable(said, "colds(n, n, n)", (x, n) -> x.colds(n, n, n), -1000, -1, 2, 11, 10000);
    }

    // An IMAGE of a TABLE in which all was done; then all becomes another.
    private static TableShares imaged(int k) {
        TableShares x = readAndAway("t4;a3,7;m15,2;", 3);
        x.meals(2);
        x.image(k);
        x.away(3, 0);
        x.away(0, 1);
        x.untie();
        x.tie(5, 9, 9);
        x.meals(4);
        return x;
    }

    private static void image() {
        Said.promise(28).says("An IMAGE (0, 1) is kept of the TABLE", () -> {
            TableShares x = imaged(0);
            x.image(1);
            x.restore(0);
            due("who are AWAY in IMAGE 0", 15 - x.tableHas(0), 8);
            x.restore(1);
            due("who are AWAY in IMAGE 1", 15 - x.tableHas(0), 1);
            changes("image(0)", "image 0", y -> y.image(0));
            changes("image(1)", "image 1", y -> y.image(1));
        }).says("1", () -> dueOfEach("image(..)", 1, n -> imaged(0).image(n), 0, 1))
        .says("BAD", () -> {
            dueOfEach("image(..)", BAD, n -> imaged(0).image(n), NEITHER);
            dueOfEach("image(..) of no TABLE", BAD, n -> noTable().image(n), NEITHER);
        }).says("STATE: no TABLE", () -> dueOfEach("image(..)", STATE, n -> noTable().image(n), 0, 1)).andNoMore();
    }

    private static void restore() {
        Said.promise(29).says("The TABLE is as an IMAGE kept it", () -> {
            TableShares x = imaged(1);
            Seen.read(x, "t2;");
            x.restore(1);
            due("PEOPLE", x.count(1), 4);
            due("who are there", x.tableHas(0), 7);
            due("TIES", x.count(2), 2);
            due("KIND", x.kind(1), 3);
            due("SET", x.tieHas(1, 0), 15);
            due("WORTH", x.tieHas(1, 1), 2);
            due("MEALS", x.tableHas(3), 2);
            due("SPOKEN", x.tableHas(4), 22);
            x.untie();
            x.away(1, 1);
            x.restore(1);
            due("TIES again", x.count(2), 2);
            due("who are there again", x.tableHas(0), 7);
            changes("restore(0)", "table, acts", y -> y.restore(0));
            changes("restore(1)", "table, ties, acts", y -> y.restore(1));
        }).says("no ACT can be undone then", () -> {
            TableShares x = imaged(0);
            x.restore(0);
            due("undo()", x.undo(), STATE);
            due("count(5)", x.count(5), 0);
        }).says("1", () -> dueOfEach("restore(..)", 1, n -> imaged(n).restore(n), 0, 1))
        .says("BAD", () -> dueOfEach("restore(..)", BAD, n -> imaged(0).restore(n), NEITHER))
        .says("STATE: none was kept", () -> {
            due("restore(1)", imaged(0).restore(1), STATE);
            due("restore(0)", imaged(1).restore(0), STATE);
        }).andNoMore();
    }

    // ---- asked

    private static void kind() {
        Said.promise(30).says("The KIND of a TIE, as told (1 to 5)", () -> {
            TableShares x = read("t2;n1,1;y1,1;m1,1;q1,1;a1,1;");
            for (int tie = 0; tie < 5; tie++) {
                due("kind(" + tie + ")", x.kind(tie), 5 - tie);
                x.as(tie, 0);
                due("kind(" + tie + ") taken as a TIE", x.kind(tie), 5 - tie);
            }
            due("kind(5)", x.kind(x.tie(3, 1, 1)), 3);
            changes("kind(0)", "", y -> y.kind(0));
        }).says("BAD", () -> {
            dueOfEach("kind(..)", BAD, n -> read("t2;a1,1;").kind(n), -1, 1, 8, LEAST, MOST);
            due("kind(0) of no TABLE", noTable().kind(0), BAD);
        }).andNoMore();
    }

    private static void as() {
        Said.promise(31).says("A TIE is taken as one of a KIND (0 .. 5)", () -> {
            TableShares x = read("t2;q1,1;n1,1;");
            dueOfEach("as(0, ..)", 0, n -> x.as(0, n), 0, 1, 2);
            dueOfEach("as(1, ..)", 1, n -> x.as(1, n), 0, 4, 5);
            changes("as(0, 1)", "", y -> y.as(0, 1));
        }).says("the TIE's number", () -> due("as(7, 1)", read(EIGHT).as(7, 1), 7))
        .says("BAD", () -> {
            dueOfEach("as(.., 0)", BAD, n -> read("t2;a1,1;").as(n, 0), -1, 1, 8, LEAST, MOST);
            dueOfEach("as(0, ..)", BAD, n -> read("t2;a1,1;").as(0, n), -1, 6, LEAST, MOST);
            due("as(0, 0) of no TABLE", noTable().as(0, 0), BAD);
        }).says("KIND: it is no such one", () -> {
            dueOfEach("as(0, ..) of all", KIND, n -> read("t2;a1,1;").as(0, n), 2, 3, 4, 5);
            dueOfEach("as(0, ..) of a quarrel", KIND, n -> read("t2;q1,1;").as(0, n), 3, 4, 5);
            dueOfEach("as(0, ..) of any", KIND, n -> read("t2;y1,1;").as(0, n), 1, 2, 3, 5);
        }).andNoMore();
    }

    private static void ask() {
        Said.promise(32).says("An ASK (0, 1) of a TIE", () -> {
            due("ask(0, 0)", read("t2;a3,5;").ask(0, 0), 7);
            due("ask(0, 1)", read("t2;a3,5;").ask(0, 1), 2);
            changes("ask(0, 1)", "trace", y -> y.ask(0, 1));
        }).says("BAD", () -> {
            dueOfEach("ask(.., 0)", BAD, n -> read("t2;a1,1;").ask(n, 0), -1, 1, 8, LEAST, MOST);
            dueOfEach("ask(0, ..)", BAD, n -> read("t2;a1,1;").ask(0, n), NEITHER);
            due("ask(0, 0) of no TABLE", noTable().ask(0, 0), BAD);
        }).says("THE TRACE stays then", () -> {
            TableShares x = read("t2;a3,5;");
            x.ask(0, 1);
            x.ask(1, 0);
            x.ask(0, 2);
            due("trace(0)", x.trace(0), 21);
            due("trace(1)", x.trace(1), 20);
            due("trace(2)", x.trace(2), NONE);
        }).says("THE TRACE is empty ahead of it", () -> {
            TableShares x = read("t2;a3,5;");
            x.ask(0, 0);
            x.ask(0, 1);
            due("trace(0)", x.trace(0), 21);
            due("trace(1)", x.trace(1), 20);
            due("trace(2)", x.trace(2), NONE);
        }).andNoMore();
    }

    private static void trace() {
        Said.promise(33).says("Number i of THE TRACE", () -> {
            TableShares x = read("t2;q3,5;");
            x.ask(0, 0);
            int[] bodies = {12, 11, 10, 24, 21, 20};
            for (int i = 0; i < bodies.length; i++) {
                due("trace(" + i + ")", x.trace(i), bodies[i]);
            }
            Seen.read(x, "t2;");
            due("trace(5) after another TABLE", x.trace(5), 20);
            changes("trace(0)", "", y -> y.trace(0));
        }).says("NONE", () -> {
            TableShares x = read("t2;q3,5;");
            due("trace(0) at first", x.trace(0), NONE);
            x.ask(0, 0);
            dueOfEach("trace(..)", NONE, n -> x.trace(n), -1, 6, 15, 16, LEAST, MOST);
        }).andNoMore();
    }

    private static void counted(Said said, String words, int what, int many) {
        said.says(words, () -> {
            TableShares x = read("t6;a3,7;q3,7;m3,7;");
            x.row(0, 0, 0);
            x.row(7, 1, 4);
            x.away(5, 1);
            x.away(0, 1);
            x.meals(9);
            Seen.feed(x, "t2;a");
            due("count(" + what + ")", x.count(what), many);
            due("count(" + what + ") of a new object", new TableShares().count(what), 0);
            changes("count(" + what + ")", "", y -> y.count(what));
        });
    }

    private static void count() {
        Said said = Said.promise(34);
        counted(said, "How many: 0 ROWS", 0, 2);
        counted(said, "1 PEOPLE", 1, 6);
        counted(said, "2 TIES", 2, 3);
        counted(said, "3 MEALS", 3, 9);
        counted(said, "4 who are AWAY", 4, 2);
        counted(said, "5 ACTS that can be undone", 5, 11);
        counted(said, "6 bytes on the tape", 6, 4);
        said.says("BAD", () -> dueOfEach("count(..)", BAD, n -> read("t2;").count(n), -1, 7, LEAST, MOST)).andNoMore();
    }

    // The status() after a call, the one before having had the FINDING SIZE.
    private static void statusAfter(String name, int status, ToIntFunction<TableShares> call) {
        TableShares x = Seen.withEverything();
        x.row(0, 0, -1);
        call.applyAsInt(x);
        due("status() after " + name, x.status(), status);
    }

    private static void status() {
        Said.promise(35).says("Of the latest call with a ROW, or as()", () -> {
            statusAfter("row(0, 0, 1)", 0, x -> x.row(0, 0, 1));
            statusAfter("set(0, 0, 0)", 0, x -> x.set(0, 0, 0));
            statusAfter("copy(0, 0, 0, 0, 1)", 0, x -> x.copy(0, 0, 0, 0, 1));
            statusAfter("drop(0)", 0, x -> x.drop(0));
            statusAfter("leaves(0, 0)", 0, x -> x.leaves(0, 0));
            statusAfter("which(0, 0, 0, 1)", 0, x -> x.which(0, 0, 0, 1));
            statusAfter("as(0, 0)", 0, x -> x.as(0, 0));
            String others = "calls without a ROW";
            statusAfter(others, 4, x -> x.feed('7') + x.feed(';') + x.table() + x.fault() + x.away(0, 1)
                    + x.tie(1, 1, 1) + x.meals(1) + x.untie() + x.undo() + x.tieHas(0, 0) + x.tableHas(0));
            statusAfter(others, 4, x -> x.worth(0) + x.adds(0, 0) + x.due(0, 0) + x.missed(0) + x.together(0)
                    + x.whoAway(0, 0) + x.enough(0, 0) + x.best(0) + x.bring(0) + x.colds(0, 0, 0));
            statusAfter(others, 4, x -> x.image(0) + x.restore(0) + x.kind(0) + x.ask(0, 0) + x.trace(0)
                    + x.count(0) + x.status());
        }).says("that was not BAD, STATE, FULL", () -> {
            statusAfter("row(8, 0, 0)", 4, x -> x.row(8, 0, 0));
            statusAfter("set(8, 0, 0)", 4, x -> x.set(8, 0, 0));
            statusAfter("copy(0, 0, 8, 0, 0)", 4, x -> x.copy(0, 0, 8, 0, 0));
            statusAfter("drop(8)", 4, x -> x.drop(8));
            statusAfter("leaves(8, 0)", 4, x -> x.leaves(8, 0));
            statusAfter("which(0, 8, 0, 0)", 4, x -> x.which(0, 8, 0, 0));
            statusAfter("which(0, 2, 1, 2), a BAD ITEM", 4, x -> x.which(0, 2, 1, 2));
            statusAfter("as(0, 6)", 4, x -> x.as(0, 6));
            TableShares x = noTable();
            x.row(0, 0, -1);
            due("leaves(0, 0) of no TABLE", x.leaves(0, 0), STATE);
            due("status() after STATE", x.status(), 4);
        }).says("the number of its FINDING", () -> {
            statusAfter("NULL", 1, x -> x.drop(7));
            statusAfter("NULL of set", 1, x -> x.set(7, 0, 0));
            statusAfter("NULL of copy", 1, x -> x.copy(0, 0, 7, 0, 0));
            statusAfter("NULL of leaves", 1, x -> x.leaves(7, 0));
            statusAfter("NULL of which", 1, x -> x.which(0, 7, 0, 0));
            statusAfter("PLACE of set", 2, x -> x.set(0, 6, 0));
            statusAfter("PLACE of copy", 2, x -> x.copy(0, 0, 0, 6, 1));
            statusAfter("PLACE of leaves", 2, x -> x.leaves(0, 6));
            statusAfter("PLACE of which", 2, x -> x.which(0, 0, 6, 1));
            statusAfter("KIND", 3, x -> x.as(0, 5));
            statusAfter("SIZE", 4, x -> x.row(1, 1, -9));
            statusAfter("STORE", 5, x -> x.copy(0, 0, 1, 0, 0));
            changes("status()", "", x -> x.status());
        }).says("0: it had none", () -> {
            statusAfter("row(7, 2, 40)", 0, x -> x.row(7, 2, 40));
            statusAfter("which, of no MEALS", 0, x -> x.which(0, 0, 6, 0));
            due("leaves(2, 0)", Seen.withEverything().leaves(2, 0), NONE);
            statusAfter("leaves(2, 0)", 0, x -> x.leaves(2, 0));
        }).says("or there was none", () -> {
            due("status() of a new object", new TableShares().status(), 0);
            due("status() after other calls", readAndAway("t2;a1,1;", 0).status(), 0);
        }).andNoMore();
    }
}
