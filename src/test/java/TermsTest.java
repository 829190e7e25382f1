import java.util.List;
import java.util.Map;
import java.util.function.Consumer;
import java.util.function.ToIntFunction;

// The document's Terms, piece by piece: each piece has a test that would fail if that piece alone were broken.
public final class TermsTest {
    private static final int NONE = -1000000, BAD = -1000001, STATE = -1000002, FULL = -1000003;
    private static final int NULL = -1000011, PLACE = -1000012, KIND = -1000013, SIZE = -1000014, STORE = -1000015;
    private static final int FAULTS = -1000100;
    private static final int LEAST = Integer.MIN_VALUE, MOST = Integer.MAX_VALUE;
    private static final String EIGHT = "t2;a1,1;a1,2;a1,3;a1,4;a1,5;a1,6;a1,7;a1,8;";

    public static void main(String[] args) {
        Said said = Said.under("## Terms");
        numbers(said);
        refusals(said);
        findings(said);
        rows(said);
        tape(said);
        texts(said);
        tables(said);
        faults(said);
        ties(said);
        acts(said);
        addsDueMissed(said);
        leavesTogether(said);
        awayEnough(said);
        bestBring(said);
        which(said);
        colds(said);
        kinds(said);
        sizes(said);
        marks(said);
        said.andNoMoreAheadOf("Ahead of the calls `row`");
        Said.end();
    }

    private static void due(String call, long got, long want) {
        Said.due(call, got, want);
    }

    private static TableShares read(String text) {
        return Seen.read(text);
    }

    private static void row(TableShares x, int row, int... items) {
        Seen.row(x, row, items);
    }

    // A TABLE of a text, with these AWAY.
    private static TableShares readAndAway(String text, int... people) {
        TableShares x = read(text);
        for (int person : people) {
            x.away(person, 1);
        }
        return x;
    }

    private static void numbers(Said said) {
        said.says("Numbers go from 0 on", () -> {
            TableShares x = read("t2;a1,9;");
            due("the first ROW", x.row(0, 0, 1), 1);
            due("the first ITEM", x.set(0, 0, 5), 5);
            due("the first TIE", x.tieHas(0, 1), 9);
            due("the second TIE's number", x.tie(1, 1, 1), 1);
            due("the first one", x.away(0, 1), 1);
            x.ask(0, 0);
            due("the first of THE TRACE", x.trace(0), 11);
            due("the first byte's place", Seen.read(x, "?"), FAULTS);
        }).says("All that is divided is cut towards 0, but fractions", () -> {
            TableShares x = read("t2;a3,3;q3,2;");
            due("due(0, 0) of a half", x.due(0, 0), 1);
            due("due(0, 1) of a half", x.due(0, 1), 2);
            due("due(0, 0) of three halves below 0", read("t2;q3,3;").due(0, 0), -3);
        }).says("told as two numbers in lowest terms", () -> {
            TableShares x = read("t3;a7,12;a3,3;");
            due("due(0, 0): 4 and 3 by 2", x.due(0, 0), 11);
            due("due(0, 1): 4 and 3 by 2", x.due(0, 1), 2);
            due("due(2, 0): 4", x.due(2, 0), 4);
            due("due(2, 1): 4", x.due(2, 1), 1);
            due("colds(12, 5, 0): 1 of 8", x.colds(12, 5, 0), 1);
            due("colds(12, 5, 1): 1 of 8", x.colds(12, 5, 1), 8);
        }).says("the second above 0", () -> {
            TableShares x = read("t3;q7,40;q3,5;");
            due("due(0, 0), below 0", x.due(0, 0), -95);
            due("due(0, 1), below 0", x.due(0, 1), 6);
        }).says("0 is 0 by 1", () -> {
            TableShares x = read("t6;");
            due("due(0, 0) of nothing", x.due(0, 0), 0);
            due("due(0, 1) of nothing", x.due(0, 1), 1);
            due("colds(1, 5, 0)", x.colds(1, 5, 0), 0);
            due("colds(1, 5, 1)", x.colds(1, 5, 1), 1);
        }).says("Sets are bits", () -> {
            TableShares x = read("t6;y63,1;");
            for (int person = 0; person < 6; person++) {
                due("who are AWAY, " + person + " alone", x.away(person, 1), 1 << person);
                due("who are there, but " + person, x.tableHas(0), 63 - (1 << person));
                x.away(person, 0);
            }
            x.away(0, 1);
            due("two AWAY", x.away(5, 1), 33);
        });
    }

    // ---- refusals

    private static final List<Call> BAD_NUMBERS = List.of(
        new Call("row(0, 3, 1)", BAD, x -> x.row(0, 3, 1)), new Call("row(0, -1, 1)", BAD, x -> x.row(0, -1, 1)),
        new Call("row(0, 0, 41)", BAD, x -> x.row(0, 0, 41)), new Call("feed(256)", BAD, x -> x.feed(256)),
        new Call("feed(-1)", BAD, x -> x.feed(-1)), new Call("away(0, 2)", BAD, x -> x.away(0, 2)),
        new Call("away(0, -1)", BAD, x -> x.away(0, -1)), new Call("tie(0, 1, 1)", BAD, x -> x.tie(0, 1, 1)),
        new Call("tie(6, 1, 1)", BAD, x -> x.tie(6, 1, 1)), new Call("tie(1, 0, 1)", BAD, x -> x.tie(1, 0, 1)),
        new Call("tie(1, 1, 41)", BAD, x -> x.tie(1, 1, 41)), new Call("tie(1, 1, -1)", BAD, x -> x.tie(1, 1, -1)),
        new Call("meals(0)", BAD, x -> x.meals(0)), new Call("meals(21)", BAD, x -> x.meals(21)),
        new Call("tieHas(0, 3)", BAD, x -> x.tieHas(0, 3)), new Call("tableHas(5)", BAD, x -> x.tableHas(5)),
        new Call("adds(0, 1)", BAD, x -> x.adds(0, 1)), new Call("due(0, 2)", BAD, x -> x.due(0, 2)),
        new Call("together(2)", BAD, x -> x.together(2)), new Call("best(2)", BAD, x -> x.best(2)),
        new Call("whoAway(10000, 0)", BAD, x -> x.whoAway(10000, 0)),
        new Call("whoAway(0, 2)", BAD, x -> x.whoAway(0, 2)),
        new Call("enough(-1000, 0)", BAD, x -> x.enough(-1000, 0)),
        new Call("enough(0, 2)", BAD, x -> x.enough(0, 2)), new Call("bring(2)", BAD, x -> x.bring(2)),
        new Call("which(0, 0, 0, 11)", BAD, x -> x.which(0, 0, 0, 11)),
        new Call("which(0, 2, 1, 2)", BAD, x -> x.which(0, 2, 1, 2)),
        new Call("colds(-1000, 0, 0)", BAD, x -> x.colds(-1000, 0, 0)),
        new Call("colds(0, 11, 0)", BAD, x -> x.colds(0, 11, 0)),
        new Call("colds(0, 0, 2)", BAD, x -> x.colds(0, 0, 2)), new Call("as(0, 6)", BAD, x -> x.as(0, 6)),
        new Call("ask(0, 2)", BAD, x -> x.ask(0, 2)), new Call("count(7)", BAD, x -> x.count(7)));

    private static final List<Call> NO_SUCH_THING = List.of(
        new Call("row(8, 0, 1)", BAD, x -> x.row(8, 0, 1)), new Call("set(8, 0, 0)", BAD, x -> x.set(8, 0, 0)),
        new Call("copy(8, 0, 0, 0, 0)", BAD, x -> x.copy(8, 0, 0, 0, 0)),
        new Call("copy(0, 0, -1, 0, 0)", BAD, x -> x.copy(0, 0, -1, 0, 0)),
        new Call("drop(8)", BAD, x -> x.drop(8)), new Call("away(4, 1)", BAD, x -> x.away(4, 1)),
        new Call("tie(1, 16, 1)", BAD, x -> x.tie(1, 16, 1)), new Call("tieHas(3, 0)", BAD, x -> x.tieHas(3, 0)),
        new Call("worth(16)", BAD, x -> x.worth(16)), new Call("adds(4, 0)", BAD, x -> x.adds(4, 0)),
        new Call("adds(0, 16)", BAD, x -> x.adds(0, 16)), new Call("due(4, 0)", BAD, x -> x.due(4, 0)),
        new Call("missed(4)", BAD, x -> x.missed(4)), new Call("leaves(8, 0)", BAD, x -> x.leaves(8, 0)),
        new Call("which(3, 0, 0, 0)", BAD, x -> x.which(3, 0, 0, 0)),
        new Call("which(0, 8, 0, 0)", BAD, x -> x.which(0, 8, 0, 0)), new Call("image(2)", BAD, x -> x.image(2)),
        new Call("restore(2)", BAD, x -> x.restore(2)), new Call("kind(3)", BAD, x -> x.kind(3)),
        new Call("as(3, 0)", BAD, x -> x.as(3, 0)), new Call("ask(3, 0)", BAD, x -> x.ask(3, 0)));

    private static void noTies(TableShares x) {
        Seen.read(x, "t3;n1,3;");
        x.away(0, 1);
        x.meals(1);
        x.ask(0, 0);
        x.untie();
        x.image(0);
        x.away(1, 1);
        Seen.withoutTable(x);
    }

    private static void noActs(TableShares x) {
        Seen.read(x, "t3;a7,7;");
        x.meals(2);
        x.image(1);
        x.away(1, 1);
        x.image(0);
        x.restore(0);
        x.ask(0, 1);
        Seen.withoutTable(x);
    }

    private static final List<Call> NOT_IN_THIS_STATE = List.of(
        new Call("away(3, 1) of one AWAY", STATE, x -> x.away(3, 1)),
        new Call("away(0, 0) of one there", STATE, x -> x.away(0, 0)),
        new Call("tie of no TABLE", STATE, Seen::withoutTable, x -> x.tie(1, 1, 1)),
        new Call("untie() of no TABLE", STATE, Seen::withoutTable, x -> x.untie()),
        new Call("untie() of no TIES", STATE, TermsTest::noTies, x -> x.untie()),
        new Call("meals(1) of no TABLE", STATE, Seen::withoutTable, x -> x.meals(1)),
        new Call("undo() of no TABLE", STATE, Seen::withoutTable, x -> x.undo()),
        new Call("undo() of no ACTS", STATE, TermsTest::noActs, x -> x.undo()),
        new Call("tableHas(0) of no TABLE", STATE, Seen::withoutTable, x -> x.tableHas(0)),
        new Call("worth(0) of no TABLE", STATE, Seen::withoutTable, x -> x.worth(0)),
        new Call("leaves(0, 0) of no TABLE", STATE, Seen::withoutTable, x -> x.leaves(0, 0)),
        new Call("together(0) of no TABLE", STATE, Seen::withoutTable, x -> x.together(0)),
        new Call("whoAway(0, 0) of no TABLE", STATE, Seen::withoutTable, x -> x.whoAway(0, 0)),
        new Call("enough(0, 0) of no TABLE", STATE, Seen::withoutTable, x -> x.enough(0, 0)),
        new Call("best(0) of no TABLE", STATE, Seen::withoutTable, x -> x.best(0)),
        new Call("bring(0) of no TABLE", STATE, Seen::withoutTable, x -> x.bring(0)),
        new Call("colds(0, 0, 0) of no TABLE", STATE, Seen::withoutTable, x -> x.colds(0, 0, 0)),
        new Call("image(0) of no TABLE", STATE, Seen::withoutTable, x -> x.image(0)),
        new Call("restore(0) of no IMAGE", STATE, Seen::withoutTable, x -> x.restore(0)),
        new Call("restore(1) of no IMAGE", STATE, TermsTest::noTies, x -> x.restore(1)));

    private static void fullTape(TableShares x) {
        noActs(x);
        x.away(2, 1);
        Seen.feed(x, "0;" + "t".repeat(111));
    }

    private static void eightTies(TableShares x) {
        Seen.read(x, EIGHT);
        x.image(0);
        x.meals(3);
        x.image(1);
        x.away(1, 1);
        x.ask(7, 0);
        Seen.withoutTable(x);
    }

    private static void mealsUpTo998(TableShares x) {
        Seen.read(x, "t3;a7,7;");
        for (int i = 0; i < 49; i++) {
            x.meals(20);
        }
        x.image(1);
        x.away(1, 1);
        x.image(0);
        x.meals(18);
        x.ask(0, 0);
        Seen.withoutTable(x);
    }

    private static final List<Call> NO_ROOM = List.of(
        new Call("feed of a full tape", FULL, TermsTest::fullTape, x -> x.feed('t')),
        new Call("a ninth TIE", FULL, TermsTest::eightTies, x -> x.tie(1, 1, 1)),
        new Call("MEALS 999 and 1000", FULL, TermsTest::mealsUpTo998, x -> x.meals(2)));

    private static void withoutFinding(TableShares x) {
        Seen.everything(x);
        x.set(0, 0, 0);
    }

    private static final List<Call> FINDINGS = List.of(
        found("row(0, 0, -1)", SIZE, x -> x.row(0, 0, -1)), found("set(7, 0, 9)", NULL, x -> x.set(7, 0, 9)),
        found("set(0, 6, 9)", PLACE, x -> x.set(0, 6, 9)), found("set(0, -1, 9)", PLACE, x -> x.set(0, -1, 9)),
        found("copy(0, 0, 7, 0, 1)", NULL, x -> x.copy(0, 0, 7, 0, 1)),
        found("copy(7, 0, 0, 0, 1)", NULL, x -> x.copy(7, 0, 0, 0, 1)),
        found("copy(2, 0, 0, 0, 2)", STORE, x -> x.copy(2, 0, 0, 0, 2)),
        found("copy(2, 0, 2, 3, 4)", PLACE, x -> x.copy(2, 0, 2, 3, 4)),
        found("copy(2, 3, 2, 0, 4)", PLACE, x -> x.copy(2, 3, 2, 0, 4)),
        found("copy(2, 0, 2, 3, -1)", PLACE, x -> x.copy(2, 0, 2, 3, -1)),
        found("drop(6)", NULL, x -> x.drop(6)), found("leaves(6, 0)", NULL, x -> x.leaves(6, 0)),
        found("leaves(0, 3)", PLACE, x -> x.leaves(0, 3)), found("which(0, 6, 0, 1)", NULL, x -> x.which(0, 6, 0, 1)),
        found("which(0, 0, 5, 1)", PLACE, x -> x.which(0, 0, 5, 1)), found("as(0, 5)", KIND, x -> x.as(0, 5)));

    private static Call found(String name, int answer, ToIntFunction<TableShares> call) {
        return new Call(name, answer, TermsTest::withoutFinding, call);
    }

    private static void answered(List<Call> calls) {
        for (Call call : calls) {
            due(call.name(), call.onNew(), call.answer());
        }
    }

    // Each call with numbers far out and near, on a new object and on one that has everything.
    private static void anythingIsAnswered(Consumer<TableShares> ahead) {
        int[] numbers = {LEAST, -1000001, -1, 0, 1, 5, 40, 64, MOST};
        for (int a : numbers) {
            for (int b : numbers) {
                TableShares x = new TableShares();
                ahead.accept(x);
                for (int c : numbers) {
                    x.row(a, b, c);
                    x.set(a, b, c);
                    x.tie(a, b, c);
                    x.colds(a, b, c);
                    x.copy(a, b, c, a, b);
                    x.copy(0, a, 0, b, c);
                    x.which(a, b, c, a);
                    x.which(0, 0, a, b);
                    x.undo();
                    x.untie();
                }
                x.away(a, b);
                x.tieHas(a, b);
                x.adds(a, b);
                x.due(a, b);
                x.leaves(a, b);
                x.whoAway(a, b);
                x.enough(a, b);
                x.as(a, b);
                x.ask(a, b);
                x.feed(a);
                x.meals(a);
                x.tableHas(a);
                x.worth(a);
                x.missed(a);
                x.together(a);
                x.best(a);
                x.bring(a);
                x.image(a);
                x.restore(b);
                x.kind(a);
                x.trace(a);
                x.count(a);
                x.drop(a);
                x.table();
                due("count(6) after calls with " + a + " and " + b, x.count(6), 0);
            }
        }
    }

    private static void refusals(Said said) {
        said.says("Refusals are answers", () -> {
            anythingIsAnswered(x -> { });
            anythingIsAnswered(Seen::everything);
        }).says("the first of these that fits", () -> {
            TableShares x = read(EIGHT);
            due("away(2, 0): BAD, STATE", x.away(2, 0), BAD);
            due("away(0, 2): BAD, STATE", x.away(0, 2), BAD);
            due("tie(1, 0, 1): BAD, FULL", x.tie(1, 0, 1), BAD);
            due("image(2): BAD, STATE", new TableShares().image(2), BAD);
            due("restore(2): BAD, STATE", x.restore(2), BAD);
            due("row(8, 0, -1): BAD, SIZE", x.row(8, 0, -1), BAD);
            due("row(0, 3, -1): BAD, SIZE", x.row(0, 3, -1), BAD);
            due("copy(8, 0, 0, 0, 0): BAD, NULL", x.copy(8, 0, 0, 0, 0), BAD);
            due("copy(0, 0, 8, 0, 0): BAD, NULL", x.copy(0, 0, 8, 0, 0), BAD);
            due("which(8, 0, 0, 0): BAD, NULL", x.which(8, 0, 0, 0), BAD);
            due("which(0, 0, 0, 11): BAD, NULL", x.which(0, 0, 0, 11), BAD);
            TableShares full = new TableShares();
            fullTape(full);
            due("feed(256): BAD, FULL", full.feed(256), BAD);
            TableShares meals = new TableShares();
            mealsUpTo998(meals);
            due("meals(21): BAD, FULL", meals.meals(21), BAD);
        }).says("but as told", () -> {
            TableShares x = new TableShares();
            due("tie(0, 0, 0): STATE ahead of BAD", x.tie(0, 0, 0), STATE);
            due("leaves(8, 0): STATE ahead of BAD", x.leaves(8, 0), STATE);
            row(x, 0, 99, 99);
            Seen.read(x, "t2;a1,1;");
            due("which(0, 0, 1, 1): PLACE ahead of an ITEM that is BAD", x.which(0, 0, 1, 1), PLACE);
        }).says("BAD (a number is not as told", () -> answered(BAD_NUMBERS))
        .says("there is no such thing", () -> answered(NO_SUCH_THING))
        .says("STATE (as told)", () -> answered(NOT_IN_THIS_STATE))
        .says("FULL (as told)", () -> answered(NO_ROOM));
    }

    // What no call may change unseen: the tests of what is changed compare with this.
    private static void everythingIsSeen() {
        Map<String, String> seen = Seen.by(Seen::everything);
        String missing = " -1000000".repeat(13);
        String[] rows = {"0 0,1,2,3,4,5,-1000015 -1000015 of 6", "-1000015 0 7,8,9,10,11,12,-1000015 of 6",
            "-1000015 -1000015 0 14,15,0,16,2,3,of 6", "-1000015 -1000015 0 of 0"};
        for (int row = 0; row < 8; row++) {
            Said.due("ROW " + row, seen.get(Seen.ROW + row), row < 4 ? rows[row] : "-1000011 ".repeat(3)
                    + "of -1000011");
        }
        Said.due("THE TAPE and 7;", seen.get(Seen.TAPE), "7 bytes, 1 3 PEOPLE, 7 17 17 0 0 0 0 1 TIES, 4 5 17");
        Said.due("the FAULT", seen.get(Seen.FAULT), "2");
        Said.due("the TABLE", seen.get(Seen.TABLE), "4 PEOPLE, 7 4 4 3 19 3 1");
        Said.due("the TIES", seen.get(Seen.TIES), "3 TIES, 1 3 7, 2 6 5, 4 9 2");
        Said.due("the ACTS", seen.get(Seen.ACTS), "8 | 7: 7 3 19 4 5 8 9 | 6: 5 3 19 4 5 8 9 | 5: 5 2 8 4 5 8 9"
                + " | 4: 7 2 8 4 5 8 9 | 3: 7 2 8 3 4 9 2 | 2: 7 1 4 3 4 9 2 | 1: 7 0 0 3 4 9 2 | 0: 15 0 0 3 4 9 2"
                + " | -1000002: 15 0 0 3 4 9 2");
        Said.due("IMAGE 0", seen.get(Seen.IMAGE_0), "1 4 PEOPLE, 15 4 4 0 0 0 0 3 TIES, 1 3 7, 2 6 5, 4 9 2");
        Said.due("IMAGE 1", seen.get(Seen.IMAGE_1), "1 4 PEOPLE, 5 11 4 3 19 3 2 4 TIES, 1 3 7, 2 6 5, 4 9 2, 5 8 9");
        Said.due("THE TRACE", seen.get(Seen.TRACE), "11 10 21 20" + missing);
        Said.due("status()", seen.get(Seen.STATUS), "1");
    }

    private static void findings(Said said) {
        said.says("then FINDINGS", () -> {
            answered(FINDINGS);
            everythingIsSeen();
        })
        .says("of several the first in time", () -> {
            TableShares x = new TableShares();
            x.row(0, 0, 2);
            x.row(1, 1, 2);
            due("set(2, 9, 0): NULL, PLACE", x.set(2, 9, 0), NULL);
            due("copy(0, 9, 2, 9, 9): NULL, PLACE", x.copy(0, 9, 2, 9, 9), NULL);
            due("copy(0, 9, 1, 0, 0): STORE, PLACE", x.copy(0, 9, 1, 0, 0), STORE);
            due("copy(0, 0, 1, 0, -1): STORE, PLACE", x.copy(0, 0, 1, 0, -1), STORE);
            Seen.read(x, "t2;a1,1;");
            due("leaves(2, -1): NULL, PLACE", x.leaves(2, -1), NULL);
            due("which(0, 2, 40, 10): NULL, PLACE", x.which(0, 2, 40, 10), NULL);
        }).says("-1000010 less 1 NULL (a ROW that is missing)", () -> {
            TableShares x = read("t2;a1,1;");
            Said.dueAll("a ROW that is missing", -1000011, x.set(0, 0, 0), x.drop(1), x.copy(2, 0, 3, 0, 0),
                    x.leaves(4, 0), x.which(0, 5, 0, 0));
            due("status()", x.status(), 1);
        }).says("2 PLACE (no such place of a ROW)", () -> {
            TableShares x = read("t2;a1,1;");
            row(x, 0, 1, 1);
            Said.dueAll("no such place", -1000012, x.set(0, 2, 0), x.copy(0, 1, 0, 0, 2), x.copy(0, 0, 0, 1, 2),
                    x.leaves(0, 1), x.which(0, 0, 1, 1));
            due("status()", x.status(), 2);
        }).says("3 KIND (a TIE that is not that)", () -> {
            TableShares x = read("t2;a1,1;");
            due("as(0, 4)", x.as(0, 4), -1000013);
            due("status()", x.status(), 3);
        }).says("4 SIZE (fewer than none)", () -> {
            TableShares x = new TableShares();
            due("row(0, 0, -1)", x.row(0, 0, -1), -1000014);
            due("status()", x.status(), 4);
        }).says("5 STORE (ROWS of two LANES)", () -> {
            TableShares x = new TableShares();
            x.row(0, 0, 1);
            x.row(1, 1, 1);
            due("copy(0, 0, 1, 0, 1)", x.copy(0, 0, 1, 0, 1), -1000015);
            due("status()", x.status(), 5);
        }).says("What is refused, or found, changes nothing but status()", () -> {
            for (List<Call> calls : List.of(BAD_NUMBERS, NO_SUCH_THING, NOT_IN_THIS_STATE, NO_ROOM)) {
                for (Call call : calls) {
                    Said.due("what is changed by " + call.name(), call.changes(), "");
                }
            }
            for (Call call : FINDINGS) {
                Said.due("what is changed by " + call.name(), call.changes(), Seen.STATUS);
            }
        });
    }

    // ---- 1

    private static void rows(Said said) {
        said.says("1 ROWS 0 .. 7", () -> {
            TableShares x = new TableShares();
            due("row(0, 0, 1)", x.row(0, 0, 1), 1);
            due("row(7, 0, 1)", x.row(7, 0, 1), 1);
            due("row(8, 0, 1)", x.row(8, 0, 1), BAD);
            due("row(-1, 0, 1)", x.row(-1, 0, 1), BAD);
        }).says("are missing (at first)", () -> {
            TableShares x = new TableShares();
            for (int row = 0; row < 8; row++) {
                due("drop(" + row + ")", x.drop(row), NULL);
            }
            due("count(0)", x.count(0), 0);
        }).says("or have a LANE (0 bytes", () -> {
            TableShares x = new TableShares();
            x.row(0, 0, 1);
            due("set to 127", x.set(0, 0, 127), 127);
            due("set to 128", x.set(0, 0, 128), -128);
            due("set to -129", x.set(0, 0, -129), 127);
        }).says("1 shorts", () -> {
            TableShares x = new TableShares();
            x.row(0, 1, 1);
            due("set to 32767", x.set(0, 0, 32767), 32767);
            due("set to 32768", x.set(0, 0, 32768), -32768);
            due("set to -32769", x.set(0, 0, -32769), 32767);
        }).says("2 ints", () -> {
            TableShares x = new TableShares();
            x.row(0, 2, 1);
            due("set to MOST", x.set(0, 0, MOST), MOST);
            due("set to LEAST", x.set(0, 0, LEAST), LEAST);
        }).says("and 0 to 40 ITEMS", () -> {
            TableShares x = new TableShares();
            due("row(0, 0, 0)", x.row(0, 0, 0), 0);
            due("row(0, 0, 40)", x.row(0, 0, 40), 40);
            due("set(0, 39, 7)", x.set(0, 39, 7), 7);
            due("row(0, 0, 41)", x.row(0, 0, 41), BAD);
            due("row(0, 0, -1)", x.row(0, 0, -1), SIZE);
        }).says("0 at first", () -> {
            TableShares x = read("t6;m63,0;");
            x.row(0, 2, 40);
            due("leaves: nobody has less than nothing", x.leaves(0, 0), NONE);
            due("leaves: nobody has less than nothing, behind", x.leaves(0, 34), NONE);
            x.untie();
            x.tie(4, 63, 1);
            due("leaves: nobody has 1", x.leaves(0, 34), 1);
        });
    }

    private static void tape(Said said) {
        said.says("TEXTS: THE TAPE has at most 120 bytes", () -> {
            TableShares x = new TableShares();
            Seen.feed(x, "t".repeat(119));
            due("the 120th byte", x.feed('t'), 120);
            due("the 121st byte", x.feed('t'), FULL);
            due("count(6)", x.count(6), 120);
            TableShares read = new TableShares();
            String longest = "t6;" + "a63,00;".repeat(3) + "m32,00;".repeat(5);
            due("a text of many bytes", Seen.read(read, longest), 8);
        }).says("that come one by one", () -> {
            TableShares x = new TableShares();
            due("the first byte", x.feed('t'), 1);
            due("the second byte", x.feed('4'), 2);
            due("the third byte", x.feed(';'), 3);
            due("the TABLE of them", x.table(), 0);
            due("its PEOPLE", x.count(1), 4);
        }).says("TOKENS: letters a to z (each by itself)", () -> {
            TableShares x = new TableShares();
            due("tt", Seen.read(x, "tt2;"), FAULTS - 1);
            due("nobody", Seen.read(x, "t2;nobody1,1;"), FAULTS - 4);
            due("z", Seen.read(x, "t2;n1,1;z"), FAULTS - 8);
        }).says("NUMBERS (figures, 2 at most)", () -> {
            TableShares x = new TableShares();
            due("one figure", Seen.read(x, "t2;a1,9;"), 1);
            due("two figures", Seen.read(x, "t02;a01,09;"), 1);
            due("WORTH", x.tieHas(0, 1), 9);
            due("three figures", Seen.read(x, "t002;"), FAULTS - 1);
            due("no figures of another kind", Seen.read(x, "t\u00b2;"), FAULTS - 1);
        }).says("SIGNS , and ;", () -> {
            TableShares x = new TableShares();
            due("both", Seen.read(x, "t2;a1,1;"), 1);
            due("; where , ought to be", Seen.read(x, "t2;a1;1;"), FAULTS - 5);
            due(", where ; ought to be", Seen.read(x, "t2,a1,1;"), FAULTS - 2);
        }).says("nothing else, no blanks", () -> {
            TableShares x = new TableShares();
            for (int other : new int[] {' ', '\n', '\t', 0, 'T', 'A', ':', '.', '/', '-', '+', '{', '`', 128, 255}) {
                Seen.feed(x, "t2;");
                x.feed(other);
                due("t2; and byte " + other, x.table(), FAULTS - 3);
            }
            due("a blank ahead", Seen.read(x, " t2;"), FAULTS);
            due("a blank at the end", Seen.read(x, "t2; "), FAULTS - 3);
        });
    }

    private static void texts(Said said) {
        said.says("table: law { tie }", () -> {
            TableShares x = new TableShares();
            due("a law alone", Seen.read(x, "t2;"), 0);
            due("a law and a tie", Seen.read(x, "t2;a1,1;"), 1);
            due("a law and two ties", Seen.read(x, "t2;a1,1;q1,1;"), 2);
            due("ties alone", Seen.read(x, "a1,1;"), FAULTS);
            due("a law behind a tie", Seen.read(x, "t2;a1,1;t2;"), FAULTS - 8);
        }).says("law: t PEOPLE ;", () -> {
            TableShares x = new TableShares();
            due("t3;", Seen.read(x, "t3;"), 0);
            due("x3;", Seen.read(x, "x3;"), FAULTS);
            due("t;", Seen.read(x, "t;"), FAULTS - 1);
            due("t3", Seen.read(x, "t3"), FAULTS - 2);
        }).says("2 to 6", () -> {
            TableShares x = new TableShares();
            for (int people = 2; people <= 6; people++) {
                due("t" + people + ";", Seen.read(x, "t" + people + ";"), 0);
                due("count(1)", x.count(1), people);
            }
            due("t1;", Seen.read(x, "t1;"), FAULTS - 1);
            due("t7;", Seen.read(x, "t7;"), FAULTS - 1);
        }).says("PEOPLE from 0 on", () -> {
            TableShares x = read("t3;");
            due("missed(0)", x.missed(0), 0);
            due("missed(2)", x.missed(2), 0);
            due("missed(3)", x.missed(3), BAD);
        }).says("tie: SORT SET , WORTH ;", () -> {
            TableShares x = new TableShares();
            due("a3,7;", Seen.read(x, "t2;a3,7;"), 1);
            due("SET", x.tieHas(0, 0), 3);
            due("WORTH", x.tieHas(0, 1), 7);
            due("3,7;", Seen.read(x, "t2;3,7;"), FAULTS - 3);
            due("a,7;", Seen.read(x, "t2;a,7;"), FAULTS - 4);
            due("a37;", Seen.read(x, "t2;a3;"), FAULTS - 5);
            due("a3,;", Seen.read(x, "t2;a3,;"), FAULTS - 6);
            due("a3,7", Seen.read(x, "t2;a3,7"), FAULTS - 7);
        });
        String sorts = "aqmyn";
        String[] words = {"SORT: a all", "q a quarrel", "m more", "y any", "n nobody"};
        for (int sort = 0; sort < 5; sort++) {
            int kind = sort + 1;
            char letter = sorts.charAt(sort);
            said.says(words[sort], () -> due("KIND of " + letter, read("t2;" + letter + "1,1;").kind(0), kind));
        }
        said.says("a SET of PEOPLE, bits", () -> {
            TableShares x = new TableShares();
            due("all of two", Seen.read(x, "t2;a3,1;"), 1);
            due("one more than two", Seen.read(x, "t2;a4,1;"), FAULTS - 4);
            due("all of six", Seen.read(x, "t6;a63,1;"), 1);
            due("one more than six", Seen.read(x, "t6;a64,1;"), FAULTS - 4);
        }).says("not empty", () -> {
            TableShares x = new TableShares();
            due("a0,1;", Seen.read(x, "t2;a0,1;"), FAULTS - 4);
            due("fault()", x.fault(), 2);
            due("tie(1, 0, 1)", read("t2;").tie(1, 0, 1), BAD);
        }).says("0 to 40", () -> {
            TableShares x = new TableShares();
            due("WORTH 0", Seen.read(x, "t2;a1,0;"), 1);
            due("WORTH 40", Seen.read(x, "t2;a1,40;"), 1);
            due("WORTH 41", Seen.read(x, "t2;a1,41;"), FAULTS - 6);
        }).says("TIES 0 .. 7", () -> {
            TableShares x = read(EIGHT);
            due("TIE 0", x.tieHas(0, 1), 1);
            due("TIE 7", x.tieHas(7, 1), 8);
            due("TIE 8", x.tieHas(8, 1), BAD);
        }).says("8 at most", () -> {
            TableShares x = new TableShares();
            due("eight", Seen.read(x, EIGHT), 8);
            due("nine", Seen.read(x, EIGHT + "a1,1;"), FAULTS - 43);
            due("a ninth told", x.tie(1, 1, 1), FULL);
        });
    }

    private static void tables(Said said) {
        said.says("A TABLE that is read stands in place of the one before", () -> {
            TableShares x = read("t5;a3,7;n16,4;");
            due("another", Seen.read(x, "t2;q3,5;"), 1);
            due("PEOPLE", x.count(1), 2);
            due("TIES", x.count(2), 1);
            due("worth(3)", x.worth(3), -5);
            due("worth(4)", x.worth(4), BAD);
        }).says("none at first", () -> {
            TableShares x = new TableShares();
            due("worth(0)", x.worth(0), STATE);
            due("count(1)", x.count(1), 0);
        }).says("nobody is AWAY", () -> {
            TableShares x = readAndAway("t3;", 0, 2);
            Seen.read(x, "t3;");
            due("count(4)", x.count(4), 0);
            due("who are there", x.tableHas(0), 7);
        }).says("no MEALS", () -> {
            TableShares x = read("t3;a1,1;");
            x.meals(5);
            Seen.read(x, "t3;a1,1;");
            due("count(3)", x.count(3), 0);
            due("tableHas(3)", x.tableHas(3), 0);
        }).says("nothing was SPOKEN", () -> {
            TableShares x = read("t3;a1,1;");
            x.meals(5);
            Seen.read(x, "t3;a1,1;");
            due("tableHas(4)", x.tableHas(4), 0);
            due("meals(1)", x.meals(1), 1);
        }).says("no ACT can be undone", () -> {
            TableShares x = read("t3;a1,1;");
            x.away(0, 1);
            Seen.read(x, "t3;a1,1;");
            due("count(5)", x.count(5), 0);
            due("undo()", x.undo(), STATE);
        }).says("IMAGES and ROWS stay", () -> {
            Call another = new Call("a TABLE", 1, x -> {
                Seen.everything(x);
                x.table();
            }, x -> Seen.read(x, "t2;q3,5;"));
            Said.due("what is changed by a TABLE", another.changes(), "table, ties, acts");
        });
    }

    private static void fault(String text, int place, int number) {
        TableShares x = new TableShares();
        due(text, Seen.read(x, text), FAULTS - place);
        due("fault() of " + text, x.fault(), number);
    }

    private static void faults(Said said) {
        said.says("FAULTS, the first TOKEN that has one", () -> {
            fault("t9;a9,99;", 1, 2);
            fault("t2;a9,99;", 4, 2);
            fault("t2;x9,99;", 3, 1);
            fault("t2;a3,99,", 6, 2);
        }).says("its first byte", () -> {
            fault("t2;a03,41;", 7, 2);
            fault("t99;", 1, 2);
            fault("t2;a3,1;12", 8, 1);
        }).says("of one TOKEN the least", () -> {
            fault("t100;", 1, 1);
            fault("t2;a3,410;", 6, 1);
            fault("t2;99", 3, 1);
            fault(EIGHT + "b", 43, 1);
            fault(EIGHT + "99", 43, 1);
        }).says("1 it cannot stand there", () -> {
            fault("2;", 0, 1);
            fault("a2;", 0, 1);
            fault("tt;", 1, 1);
            fault("t,;", 1, 1);
            fault("t2t", 2, 1);
            fault("t2,", 2, 1);
            fault("t2;;", 3, 1);
            fault("t2;t", 3, 1);
            fault("t2;a;", 4, 1);
            fault("t2;a1;", 5, 1);
            fault("t2;a1,a", 6, 1);
            fault("t2;a1,1,", 7, 1);
        }).says("or is none", () -> {
            fault("!", 0, 1);
            fault("t!", 1, 1);
            fault("t2!", 2, 1);
            fault("t2;!", 3, 1);
            fault("t2;a!", 4, 1);
            fault("t2;a1!", 5, 1);
            fault("t2;a1,!", 6, 1);
            fault("t2;a1,1!", 7, 1);
            fault("t2;a1,1;!", 8, 1);
        }).says("a run of three figures or more, at its first", () -> {
            fault("t003;", 1, 1);
            fault("t2;a0001,1;", 4, 1);
            fault("t2;a1,012;", 6, 1);
            fault("t2;000", 3, 1);
        }).says("the end: how many bytes there are", () -> {
            fault("", 0, 1);
            fault("t", 1, 1);
            fault("t2", 2, 1);
            fault("t2;a", 4, 1);
            fault("t2;a01", 6, 1);
            fault("t2;a01,", 7, 1);
            fault("t2;a01,01", 9, 1);
        }).says("2 a NUMBER that is not as told", () -> {
            fault("t0;", 1, 2);
            fault("t1;", 1, 2);
            fault("t7;", 1, 2);
            fault("t2;a0,1;", 4, 2);
            fault("t2;a4,1;", 4, 2);
            fault("t2;a1,41;", 6, 2);
        }).says("3 a tie more than there is room for", () -> {
            fault(EIGHT + "a1,1;", 43, 3);
            fault(EIGHT + "n1,1;", 43, 3);
            due("eight", Seen.read(new TableShares(), EIGHT), 8);
        }).says("its letter", () -> {
            fault(EIGHT + "a", 43, 3);
            fault(EIGHT + "a0,41;", 43, 3);
            fault(EIGHT.replace("1,8", "01,08") + "a1,1;", 45, 3);
        });
    }

    // ---- 2

    // What one TIE of SET 0, 1, 3 and WORTH 6 counts, by who is there of four: nobody of SET, 0, 0 and 1, all three,
    // with 2 and without.
    private static void counts(String sort, int nobody, int one, int two, int all) {
        TableShares x = read("t4;" + sort + "11,6;");
        int[][] due = {{0, nobody}, {4, nobody}, {1, one}, {2, one}, {8, one}, {5, one}, {3, two}, {9, two}, {10, two},
            {14, two}, {11, all}, {15, all}};
        for (int[] there : due) {
            due("worth(" + there[0] + ") of " + sort, x.worth(there[0]), there[1]);
        }
    }

    private static void ties(Said said) {
        said.says("2 A TIE counts by who is there", () -> {
            TableShares x = read("t3;a3,6;");
            due("all are there", x.tieHas(0, 2), 6);
            x.away(2, 1);
            due("2 is AWAY", x.tieHas(0, 2), 6);
            x.away(1, 1);
            due("1 is AWAY", x.tieHas(0, 2), 0);
            x.away(1, 0);
            due("1 came back", x.tieHas(0, 2), 6);
        }).says("one of all WORTH, if all of SET are there", () -> counts("a", 0, 0, 0, 6))
        .says("a quarrel so, but 0 less WORTH", () -> counts("q", 0, 0, 0, -6))
        .says("more WORTH for each of SET who is there, but the first one", () -> counts("m", 0, 0, 6, 12))
        .says("one of any WORTH, if somebody of SET is there", () -> counts("y", 0, 6, 6, 6))
        .says("one of nobody WORTH, if nobody of SET is there", () -> counts("n", 6, 0, 0, 0))
        .says("What a set of PEOPLE is WORTH: what all TIES count, they being there, added", () -> {
            TableShares x = readAndAway("t3;a3,1;q6,2;m7,4;y4,8;n1,16;a7,32;", 0, 1, 2);
            int[] worths = {16, 0, 16, 5, 24, 12, 26, 1 - 2 + 8 + 8 + 32};
            for (int set = 0; set < 8; set++) {
                due("worth(" + set + ")", x.worth(set), worths[set]);
            }
            due("no TIES", read("t2;").worth(3), 0);
        });
    }

    private static void acts(Said said) {
        said.says("ACTS (24 at most are kept", () -> {
            TableShares x = read("t2;");
            for (int act = 1; act <= 24; act++) {
                x.away(0, act % 2);
                due("count(5)", x.count(5), act);
            }
            x.away(0, 1);
            due("count(5) after 25", x.count(5), 24);
            x.meals(20);
            due("count(5) after 45", x.count(5), 24);
            due("undo()", x.undo(), 23);
        }).says("of more the oldest is forgotten", () -> {
            TableShares x = readAndAway("t2;a3,1;", 1);
            x.meals(4);
            x.meals(20);
            due("count(5)", x.count(5), 24);
            for (int left = 23; left >= 0; left--) {
                due("undo()", x.undo(), left);
            }
            due("undo() of what was forgotten", x.undo(), STATE);
            due("1 is AWAY yet", x.tableHas(0), 1);
            due("count(3)", x.count(3), 0);
        }).says("each can be undone, the latest first", () -> {
            TableShares x = read("t2;a1,1;");
            x.away(1, 1);
            x.tie(2, 1, 5);
            x.meals(1);
            x.untie();
            x.away(1, 0);
            due("undo() of who came back", x.undo(), 4);
            due("who are there", x.tableHas(0), 1);
            due("undo() of the TIE undone", x.undo(), 3);
            due("TIES", x.count(2), 2);
            due("KIND", x.kind(1), 2);
            due("SET", x.tieHas(1, 0), 1);
            due("WORTH", x.tieHas(1, 1), 5);
            due("undo() of the MEAL", x.undo(), 2);
            due("MEALS", x.count(3), 0);
            due("SPOKEN", x.tableHas(4), 0);
            due("undo() of the TIE told", x.undo(), 1);
            due("TIES", x.count(2), 1);
            due("undo() of who went", x.undo(), 0);
            due("who are there", x.tableHas(0), 3);
        }).says("also such by which nothing becomes another", () -> {
            TableShares x = read("t2;");
            due("a MEAL that is WORTH nothing", x.meals(1), 0);
            due("count(5)", x.count(5), 1);
            x.tie(1, 1, 0);
            due("count(5) after a TIE of WORTH 0", x.count(5), 2);
            x.untie();
            due("count(5) after both", x.count(5), 3);
            due("undo()", x.undo(), 2);
            due("count(2)", x.count(2), 1);
        }).says("somebody is AWAY", () -> {
            TableShares x = read("t2;");
            x.away(1, 1);
            due("count(5)", x.count(5), 1);
            due("undo()", x.undo(), 0);
            due("count(4)", x.count(4), 0);
        }).says("or comes back", () -> {
            TableShares x = readAndAway("t2;", 1);
            x.away(1, 0);
            due("count(5)", x.count(5), 2);
            due("undo()", x.undo(), 1);
            due("count(4)", x.count(4), 1);
        }).says("a TIE is told, behind all others", () -> {
            TableShares x = read("t2;a1,1;a2,2;");
            due("its number", x.tie(5, 3, 3), 2);
            due("the first one stays", x.tieHas(0, 1), 1);
            due("the second one stays", x.tieHas(1, 1), 2);
            due("it is there", x.tieHas(2, 1), 3);
            due("count(5)", x.count(5), 1);
            due("undo()", x.undo(), 0);
            due("count(2)", x.count(2), 2);
        }).says("or the last one is undone", () -> {
            TableShares x = read("t2;a1,1;a2,2;");
            due("untie()", x.untie(), 1);
            due("the first one stays", x.tieHas(0, 1), 1);
            due("count(5)", x.count(5), 1);
            due("undo()", x.undo(), 0);
            due("the last one is back", x.tieHas(1, 1), 2);
        }).says("a MEAL: what those who are there are WORTH is SPOKEN", () -> {
            TableShares x = readAndAway("t3;a3,7;q1,2;y4,30;", 2);
            due("meals(1)", x.meals(1), 5);
            x.away(1, 1);
            due("meals(2) without 1", x.meals(2), 1);
            due("SPOKEN", x.tableHas(4), 1);
            due("MEALS", x.tableHas(3), 3);
        });
    }

    // ---- 3

    private static final List<Call> FORETOLD = List.of(
        found("tieHas(0, 2)", 7, x -> x.tieHas(0, 2)), found("tableHas(1)", 4, x -> x.tableHas(1)),
        found("worth(9)", 2, x -> x.worth(9)), found("adds(2, 3)", -5, x -> x.adds(2, 3)),
        found("due(0, 0)", 9, x -> x.due(0, 0)), found("missed(2)", -5, x -> x.missed(2)),
        found("leaves(0, 0)", 1, x -> x.leaves(0, 0)), found("together(1)", NONE, x -> x.together(1)),
        found("whoAway(4, 1)", 0, x -> x.whoAway(4, 1)), found("enough(7, 1)", 3, x -> x.enough(7, 1)),
        found("best(0)", 3, x -> x.best(0)), found("bring(0)", 3, x -> x.bring(0)),
        found("which(0, 0, 1, 2)", 0, x -> x.which(0, 0, 1, 2)), found("colds(4, 5, 1)", 4, x -> x.colds(4, 5, 1)));

    private static void addsDueMissed(Said said) {
        said.says("3 FORETOLD (nothing changes)", () -> {
            answered(FORETOLD);
            for (Call call : FORETOLD) {
                Said.due("what is changed by " + call.name(), call.changes(), "");
            }
        }).says("ADDS: how much more a set that somebody is not in is WORTH with that one", () -> {
            TableShares x = readAndAway("t3;a3,7;q6,5;n7,4;", 0);
            due("adds(0, 0)", x.adds(0, 0), -4);
            due("adds(0, 2)", x.adds(0, 2), 7);
            due("adds(2, 2)", x.adds(2, 2), -5);
            due("adds(0, 6)", x.adds(0, 6), 7);
            due("adds(1, 5)", x.adds(1, 5), 2);
            due("adds(0, 1), who is in it", x.adds(0, 1), BAD);
        });
        said.says("DUE to somebody: of all orders in which all PEOPLE could have come", () -> {
            // Of more than two only the orders of all tell how often two others are there already.
            dueTo(read("t4;a7,12;"), 0, 4, 1);
            dueTo(read("t4;a15,40;"), 3, 10, 1);
            dueTo(read("t6;a63,30;"), 5, 5, 1);
            dueTo(read("t4;a7,12;"), 3, 0, 1);
        }).says("AWAY or not", () -> {
            dueTo(readAndAway("t4;a7,12;", 0), 0, 4, 1);
            dueTo(readAndAway("t4;a7,12;", 0, 1, 2, 3), 1, 4, 1);
        }).says("all alike likely", () -> {
            dueTo(read("t3;y7,3;"), 1, 1, 1);
            dueTo(read("t4;y7,3;"), 2, 1, 1);
            dueTo(read("t6;y63,6;"), 2, 1, 1);
            dueTo(read("t3;m7,1;"), 0, 2, 3);
        }).says("what that one ADDS to those who came ahead", () -> {
            dueTo(read("t3;n7,6;"), 0, -2, 1);
            dueTo(read("t3;a1,6;"), 0, 6, 1);
            dueTo(read("t3;a3,7;a6,7;"), 1, 7, 1);
        }).says("a fraction", () -> dueTo(read("t2;a3,7;"), 0, 7, 2))
        .says("it can be below 0", () -> dueTo(read("t2;q3,7;"), 1, -7, 2))
        .says("MISSED: by how much less all PEOPLE are WORTH without one", () -> {
            TableShares x = readAndAway("t3;a3,7;q6,5;n7,4;", 1);
            due("missed(0)", x.missed(0), 7);
            due("missed(1)", x.missed(1), 2);
            due("missed(2), more without", x.missed(2), -5);
        });
    }

    private static void dueTo(TableShares x, int person, int above, int below) {
        due("due(" + person + ", 0)", x.due(person, 0), above);
        due("due(" + person + ", 1)", x.due(person, 1), below);
    }

    private static void leaves(String text, int answer, int... given) {
        TableShares x = readAndAway(text, 0);
        row(x, 5, given);
        due("leaves of " + text, x.leaves(5, 0), answer);
    }

    private static void together(String text, int many, int first) {
        TableShares x = readAndAway(text, 1);
        due("together(0) of " + text, x.together(0), many);
        due("together(1) of " + text, x.together(1), first);
    }

    private static void leavesTogether(Said said) {
        said.says("LEAVES: a row tells what each is given", () -> {
            leaves("t2;a1,5;a2,3;", NONE, 5, 3);
            leaves("t2;a1,5;a2,3;", 1, 4, 3);
            leaves("t2;a1,5;a2,3;", 2, 5, 2);
            leaves("t2;q1,5;", 1, -6, 0);
        }).says("the first set (by bits", () -> {
            leaves("t3;a1,5;a2,5;a4,5;", 1, 4, 4, 4);
            leaves("t3;a1,5;a2,5;a4,5;", 2, 5, 4, 4);
            leaves("t3;a3,9;a4,5;", 3, 5, 3, 4);
            leaves("t3;a6,9;a7,9;", 6, 0, 0, 0);
        }).says("not empty", () -> leaves("t2;n3,7;", NONE, 0, 0))
        .says("that is WORTH more", () -> {
            leaves("t2;a1,5;", NONE, 5, 0);
            leaves("t2;a1,6;", 1, 5, 0);
            leaves("t2;", NONE, 0, 0);
        }).says("than all of it are given together", () -> {
            leaves("t2;a3,9;", 3, 4, 4);
            leaves("t2;a3,9;", NONE, 4, 5);
            leaves("t3;a7,9;", 7, 2, 3, 3);
            leaves("t3;a3,9;", 3, 4, 4, MOST);
            leaves("t2;", NONE, MOST, MOST);
        }).says("NONE", () -> leaves("t6;", NONE, 0, 0, 0, 0, 0, 0))
        .says("TOGETHER: pairs of PEOPLE, a below b", () -> together("t2;y3,5;", 1, 1))
        .says("of whom none is MISSED alone (0)", () -> {
            together("t3;y3,5;a1,1;", 0, NONE);
            together("t3;y3,5;a2,1;", 0, NONE);
            together("t3;y3,5;q1,1;", 0, NONE);
            together("t3;y3,5;q2,1;", 0, NONE);
            together("t3;y3,5;a4,1;", 1, 1);
        }).says("but without both all are WORTH less", () -> {
            together("t3;", 0, NONE);
            together("t3;n3,5;", 0, NONE);
            together("t3;y7,5;", 0, NONE);
            together("t3;y3,1;", 1, 1);
        }).says("how many", () -> {
            together("t4;y3,5;y12,1;", 2, 1);
            together("t6;y3,5;y12,1;y48,1;", 3, 1);
        }).says("the first (10 a and b", () -> {
            together("t4;y12,1;", 1, 23);
            together("t6;y48,1;", 1, 45);
            together("t4;y6,1;y9,1;", 2, 3);
        }).says("NONE", () -> together("t2;", 0, NONE));
    }

    private static void whoAway(String text, int v, int many, int least) {
        TableShares x = readAndAway(text, 0);
        due("whoAway(" + v + ", 0) of " + text, x.whoAway(v, 0), many);
        due("whoAway(" + v + ", 1) of " + text, x.whoAway(v, 1), least);
    }

    private static void enough(String text, int v, int many, int least) {
        TableShares x = readAndAway(text, 0);
        due("enough(" + v + ", 0) of " + text, x.enough(v, 0), many);
        due("enough(" + v + ", 1) of " + text, x.enough(v, 1), least);
    }

    private static void awayEnough(Said said) {
        String text = "t3;a3,7;q6,5;n7,4;";
        said.says("AWAY: sets that could be AWAY, so that all others are WORTH v", () -> {
            whoAway(text, -5, 1, 1);
            whoAway(text, 7, 1, 4);
            whoAway(text, 4, 1, 7);
            whoAway(text, 2, 1, 0);
        }).says("how many", () -> {
            whoAway(text, 0, 4, 2);
            whoAway("t6;", 0, 64, 0);
            whoAway(text, 3, 0, NONE);
        }).says("the least", () -> {
            whoAway("t3;a3,7;", 0, 6, 1);
            whoAway("t3;y3,7;", 0, 2, 3);
        }).says("NONE", () -> whoAway(text, 8, 0, NONE))
        .says("ENOUGH: the fewest PEOPLE who are WORTH v, or more", () -> {
            enough("t3;a3,7;a4,3;", 3, 1, 4);
            enough("t3;a3,7;a4,3;", 4, 2, 3);
            enough("t3;a3,7;a4,3;", 7, 2, 3);
            enough("t3;a3,7;a4,3;", 8, 3, 7);
            enough("t3;a3,7;a4,7;", 7, 1, 4);
        }).says("an empty set, too", () -> {
            enough("t3;a3,7;", 0, 0, 0);
            enough("t3;n7,5;", 5, 0, 0);
            enough("t3;n7,5;", 6, NONE, NONE);
        }).says("how many", () -> {
            enough("t6;a63,9;", 9, 6, 63);
            enough("t6;a63,9;", 0, 0, 0);
        }).says("which (bits)", () -> enough("t6;a48,9;", 9, 2, 48))
        .says("of several the least", () -> {
            enough("t3;y7,5;", 5, 1, 1);
            enough("t3;a6,7;a5,8;", 7, 2, 5);
        }).says("NONE", () -> {
            enough("t3;a3,7;", 8, NONE, NONE);
            enough("t3;", 1, NONE, NONE);
        });
    }

    private static void best(String text, int which, int much) {
        TableShares x = readAndAway(text, 0);
        due("best(0) of " + text, x.best(0), which);
        due("best(1) of " + text, x.best(1), much);
    }

    private static void bring(TableShares x, int who, int much) {
        due("bring(0)", x.bring(0), who);
        due("bring(1)", x.bring(1), much);
    }

    private static void bestBring(Said said) {
        said.says("BEST: the set that is WORTH most", () -> {
            best("t4;m15,1;", 15, 3);
            best("t4;a5,9;q7,1;", 5, 9);
            best("t2;n3,4;a3,3;", 0, 4);
        }).says("of several the fewest", () -> {
            best("t3;a3,9;a4,9;q7,9;", 4, 9);
            best("t3;a1,1;", 1, 1);
            best("t3;", 0, 0);
        }).says("then the least", () -> {
            best("t3;a5,9;a6,9;q7,9;", 5, 9);
            best("t4;y14,3;", 2, 3);
        }).says("which", () -> best("t6;a33,3;", 33, 3))
        .says("how much", () -> best("t2;n1,40;n2,40;", 0, 80))
        .says("BRING: of those AWAY", () -> {
            bring(readAndAway("t3;y1,9;y2,3;", 1), 1, 3);
            bring(readAndAway("t3;q4,9;", 2), 2, -9);
        }).says("the one who ADDS most to those there", () -> {
            bring(readAndAway("t3;a3,7;y4,5;", 0, 2), 0, 7);
            bring(readAndAway("t3;a3,7;y4,5;", 0, 1, 2), 2, 5);
            bring(readAndAway("t3;q1,7;q2,5;q4,6;", 0, 1, 2), 1, -5);
        }).says("of several the first", () -> {
            bring(readAndAway("t3;y2,5;y4,5;", 2, 1), 1, 5);
            bring(readAndAway("t3;", 0, 1, 2), 0, 0);
        }).says("how much", () -> bring(readAndAway("t2;a2,40;a2,39;", 1), 1, 79))
        .says("NONE: nobody is AWAY", () -> {
            bring(read("t2;a3,7;"), NONE, NONE);
            TableShares x = readAndAway("t2;a3,7;", 0);
            x.away(0, 0);
            bring(x, NONE, NONE);
        });
    }

    // Of TIE 0 of SET 0, 1, 2 and WORTH 7, told as one of all, beside others.
    private static void which(String others, int kinds, int... seen) {
        TableShares x = readAndAway("t3;a7,7;" + others, 0);
        row(x, 6, seen);
        due("which of " + (seen.length / 2) + " MEALS, and " + others, x.which(0, 6, 0, seen.length / 2), kinds);
    }

    private static void which(Said said) {
        said.says("WHICH: a row tells n MEALS (0 to 10)", () -> {
            which("", 62);
            TableShares x = read("t3;a7,7;");
            x.row(6, 0, 40);
            due("which of 10 MEALS", x.which(0, 6, 0, 10), 30);
            due("which of 11 MEALS", x.which(0, 6, 0, 11), BAD);
            due("which of -1 MEALS", x.which(0, 6, 0, -1), BAD);
            x.set(6, 19, 7);
            due("which of 10 MEALS, the last otherwise", x.which(0, 6, 0, 10), 0);
            due("which of 9 MEALS", x.which(0, 6, 0, 9), 30);
        }).says("who was there, and what they were WORTH, by turns", () -> {
            which("", 30, 0, 0);
            which("", 32, 0, 7);
            which("", 46, 1, 0, 2, 0);
            which("", 2, 3, 0, 7, 7);
            which("", 2, 7, 7, 3, 0);
        }).says("KINDS (bits 1 to 5) by which it was so", () -> {
            which("", 1 << 1, 7, 7, 3, 0);
            which("", 1 << 2, 7, -7);
            which("", 1 << 3, 7, 14);
            which("", 1 << 4, 1, 7);
            which("", 1 << 5, 0, 7);
            which("", 0, 7, 8);
        }).says("a TIE being of that KIND", () -> {
            TableShares x = read("t3;n7,7;y4,3;");
            row(x, 6, 7, 10, 4, 10);
            due("which of one told as one of nobody", x.which(0, 6, 0, 1), 1 << 1 | 1 << 4);
            due("which of one told as one of any", x.which(1, 6, 0, 1), 0);
            due("its KIND stays", x.kind(0), 5);
        }).says("all else as it is", () -> {
            which("y4,30;", 1 << 1 | 1 << 4, 7, 37);
            which("y4,30;q3,7;", 1 << 3 | 1 << 4, 3, 0);
        });
    }

    private static void colds(TableShares x, int v, int c, int above, int below) {
        due("colds(" + v + ", " + c + ", 0)", x.colds(v, c, 0), above);
        due("colds(" + v + ", " + c + ", 1)", x.colds(v, c, 1), below);
    }

    private static void colds(Said said) {
        said.says("COLDS: of all PEOPLE who are there", () -> {
            colds(readAndAway("t2;y1,5;", 0), 5, 0, 0, 1);
            colds(readAndAway("t2;y3,5;", 0), 5, 3, 7, 10);
            colds(readAndAway("t2;n3,5;", 0, 1), 5, 3, 1, 1);
        }).says("each is AWAY by c of 10", () -> {
            colds(read("t2;y1,5;"), 5, 0, 1, 1);
            colds(read("t2;y1,5;"), 5, 3, 7, 10);
            colds(read("t2;y1,5;"), 5, 10, 0, 1);
            colds(read("t2;n1,5;"), 5, 3, 3, 10);
        }).says("each by itself", () -> {
            colds(read("t2;y3,5;"), 5, 3, 91, 100);
            colds(read("t2;a3,5;"), 5, 3, 49, 100);
            colds(read("t6;a63,5;"), 5, 1, 531441, 1000000);
            colds(read("t6;n63,5;"), 5, 1, 1, 1000000);
        }).says("that those left are WORTH v, or more", () -> {
            colds(read("t2;y1,5;"), 6, 3, 0, 1);
            colds(read("t2;y1,5;"), 4, 3, 7, 10);
            colds(read("t2;y1,5;"), 1, 3, 7, 10);
            colds(read("t2;y1,5;"), 0, 3, 1, 1);
            colds(read("t2;q1,5;"), -4, 3, 3, 10);
        }).says("a fraction", () -> colds(read("t2;y1,5;"), 5, 4, 3, 5));
    }

    private static void isOf(int tie, int... kinds) {
        TableShares x = read("t2;a1,1;q1,1;m1,1;y1,1;n1,1;");
        for (int kind = 0; kind < 6; kind++) {
            int answer = KIND;
            for (int is : kinds) {
                answer = is == kind ? tie : answer;
            }
            due("as(" + tie + ", " + kind + ")", x.as(tie, kind), answer);
        }
        due("kind(" + tie + ")", x.kind(tie), tie + 1);
    }

    private static void kinds(Said said) {
        said.says("KINDS of TIES: 0 TIE", () -> {
            TableShares x = read("t2;a1,1;q1,1;m1,1;y1,1;n1,1;");
            for (int tie = 0; tie < 5; tie++) {
                due("as(" + tie + ", 0)", x.as(tie, 0), tie);
            }
        }).says("1 ALL, a TIE", () -> isOf(0, 0, 1))
        .says("2 QUARREL, an ALL", () -> isOf(1, 0, 1, 2))
        .says("3 MORE, an ALL", () -> isOf(2, 0, 1, 3))
        .says("4 ANY, a TIE", () -> isOf(3, 0, 4))
        .says("5 NOBODY, an ANY", () -> isOf(4, 0, 4, 5))
        .says("By this it is asked", () -> {
            TableShares x = read("t2;m3,5;n3,5;");
            asked(x, 0, 0, 5 + 2 - 1000, 11, 10, 22, 21, 20);
            asked(x, 1, 1, 1 + 190, 23, 20, 14, 13, 10);
        });
    }

    // ---- 4

    private static void asked(TableShares x, int tie, int what, int answer, int... bodies) {
        String call = "ask(" + tie + ", " + what + ")";
        due(call, x.ask(tie, what), answer);
        for (int i = 0; i <= 16; i++) {
            due(call + ", trace(" + i + ")", x.trace(i), i < bodies.length ? bodies[i] : NONE);
        }
    }

    // TIES 1, 3, 5, 7 of these SORTS, of SET 0, 1, 2 of whom 1 is AWAY.
    private static TableShares toBeAsked() {
        return readAndAway("t4;y8,1;a7,5;y8,1;q7,6;y8,1;m7,7;y7,8;n7,9;", 1);
    }

    private static void sizes(Said said) {
        said.says("4 ASKS of TIES, by BODIES, each of which leaves its number in THE TRACE as it begins",
                () -> asked(toBeAsked(), 3, 0, -(6 + 10), 12, 11, 10, 24, 21, 20))
        .says("the first 16", () -> {
            TableShares x = toBeAsked();
            for (int ask = 0; ask < 5; ask++) {
                asked(x, 3, 0, -(6 + 10), 12, 11, 10, 24, 21, 20);
            }
            due("trace(15)", x.trace(15), NONE);
            due("trace(16)", x.trace(16), NONE);
        }).says("0 SIZE: 10 lent to all TIES: WORTH", () -> {
            TableShares x = toBeAsked();
            asked(x, 2, 0, 1 - 100, 13, 10);
            asked(x, 6, 0, 8 - 100, 13, 10);
        }).says("11 of ALL: what 10 gives, and MARK", () -> asked(toBeAsked(), 1, 0, 5 + 1 + 2, 11, 10, 21, 20))
        .says("12 of QUARRELS: 0 less what 11 gives", () -> {
            TableShares x = toBeAsked();
            asked(x, 3, 0, -(6 + 2 * (3 + 2)), 12, 11, 10, 24, 21, 20);
        }).says("13 of ANY: what 10 gives, less 100", () -> asked(toBeAsked(), 6, 0, 8 - 100, 13, 10))
        .says("14 of NOBODY: twice what 13 gives", () -> asked(toBeAsked(), 7, 0, 2 * (9 - 100), 14, 13, 10))
        .says("asked once", () -> asked(toBeAsked(), 7, 0, -182, 14, 13, 10));
    }

    private static void marks(Said said) {
        said.says("1 MARK: 20 lent to all TIES: the number", () -> {
            TableShares x = toBeAsked();
            asked(x, 0, 1, 0 + 99, 23, 20, 13, 10);
            asked(x, 4, 1, 4 + 99, 23, 20, 13, 10);
        }).says("21 of ALL: what 20 gives, and how many of SET are there", () -> {
            TableShares x = toBeAsked();
            asked(x, 1, 1, 1 + 2, 21, 20);
            x.away(3, 1);
            asked(x, 1, 1, 1 + 2, 21, 20);
            x.away(0, 1);
            x.away(2, 1);
            asked(x, 1, 1, 1 + 0, 21, 20);
        }).says("22 of MORE: what 21 gives, less 1000", () -> asked(toBeAsked(), 5, 1, 5 + 2 - 1000, 22, 21, 20))
        .says("23 of ANY: what 20 gives, less SIZE", () -> asked(toBeAsked(), 6, 1, 6 + 92, 23, 20, 13, 10))
        .says("24 of QUARRELS: twice what 21 gives", () -> asked(toBeAsked(), 3, 1, 2 * (3 + 2), 24, 21, 20))
        .says("asked once", () -> asked(toBeAsked(), 3, 1, 10, 24, 21, 20))
        .says("Of an ask the BODY told for the KIND begins", () -> {
            asked(toBeAsked(), 3, 0, -16, 12, 11, 10, 24, 21, 20);
            asked(toBeAsked(), 7, 0, -182, 14, 13, 10);
            asked(toBeAsked(), 5, 1, -993, 22, 21, 20);
        }).says("else that of the nearest KIND that it is, too", () -> {
            asked(toBeAsked(), 5, 0, 7 - 993, 11, 10, 22, 21, 20);
            asked(toBeAsked(), 7, 1, 7 + 182, 23, 20, 14, 13, 10);
        }).says("else the one that is lent", () -> {
            // No KIND of 1 to 5 is without a BODY of its own or of one above, so what is lent is only seen within.
            asked(toBeAsked(), 1, 1, 3, 21, 20);
            asked(toBeAsked(), 6, 0, -92, 13, 10);
        }).says("SIZE, MARK within others are asked of the same TIE anew", () -> {
            asked(toBeAsked(), 5, 0, 7 + 5 + 2 - 1000, 11, 10, 22, 21, 20);
            asked(toBeAsked(), 3, 0, -(6 + 2 * 5), 12, 11, 10, 24, 21, 20);
            asked(toBeAsked(), 7, 1, 7 + 2 * 91, 23, 20, 14, 13, 10);
        });
    }
}
