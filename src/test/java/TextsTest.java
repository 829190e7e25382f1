// Promises 6 to 8: feed, table, fault.
public final class TextsTest {
    private static final int BAD = -1000001, STATE = -1000002, FULL = -1000003, FAULTS = -1000100;
    private static int wrong = 0;

    private static void due(String call, long got, long want) {
        if (got != want) {
            wrong++;
            System.out.println(call + " answered " + got + ", due is " + want);
        }
    }

    public static void main(String[] args) {
        tapeIsFed();
        tablesAreRead();
        faultsArePlaced();
        faultChangesNothing();
        tableTakesThePlace();
        System.out.println(wrong == 0 ? "all answers are as due" : wrong + " answers are not as due");
        if (wrong != 0) {
            System.exit(1);
        }
    }

    private static int read(TableShares x, String text) {
        for (int i = 0; i < text.length(); i++) {
            x.feed(text.charAt(i));
        }
        return x.table();
    }

    private static void tapeIsFed() {
        TableShares x = new TableShares();
        int[] bad = {-1, 256, Integer.MIN_VALUE, Integer.MAX_VALUE};
        for (int letter : bad) {
            due("feed(" + letter + ")", x.feed(letter), BAD);
        }
        for (int i = 1; i <= 120; i++) {
            due("feed, the " + i + "th", x.feed(i % 2 == 0 ? 0 : 255), i);
        }
        due("feed of a full tape", x.feed('t'), FULL);
        due("feed of a full tape, BAD", x.feed(256), BAD);
        due("count(6)", x.count(6), 120);
        due("table()", x.table(), FAULTS);
        due("count(6) when read", x.count(6), 0);
        due("feed when read", x.feed('t'), 1);
    }

    private static void tablesAreRead() {
        TableShares x = new TableShares();
        due("t2;", read(x, "t2;"), 0);
        due("PEOPLE", x.count(1), 2);
        due("fault() before one", x.fault(), 0);
        due("t06;", read(x, "t06;"), 0);
        due("PEOPLE", x.count(1), 6);
        due("five SORTS", read(x, "t6;a63,40;q01,00;m32,0;y1,01;n3,7;"), 5);
        int[] sets = {63, 1, 32, 1, 3};
        int[] worths = {40, 0, 0, 1, 7};
        for (int tie = 0; tie < 5; tie++) {
            due("KIND of TIE " + tie, x.kind(tie), tie + 1);
            due("SET of TIE " + tie, x.tieHas(tie, 0), sets[tie]);
            due("WORTH of TIE " + tie, x.tieHas(tie, 1), worths[tie]);
        }
        due("eight TIES", read(x, "t2;a1,1;a1,2;a1,3;a1,4;a1,5;a1,6;a1,7;a1,8;"), 8);
        due("WORTH of TIE 7", x.tieHas(7, 1), 8);
        due("fault() before one", x.fault(), 0);
    }

    private static void fault(String text, int place, int number) {
        TableShares x = new TableShares();
        due(text, read(x, text), FAULTS - place);
        due("fault() of " + text, x.fault(), number);
        due("count(6) after " + text, x.count(6), 0);
        due("count(1) after " + text, x.count(1), 0);
    }

    private static void faultsArePlaced() {
        fault("", 0, 1);
        fault(" t2;", 0, 1);
        fault("T2;", 0, 1);
        fault("2;", 0, 1);
        fault(";", 0, 1);
        fault("tt2;", 1, 1);
        fault("t;", 1, 1);
        fault("t 2;", 1, 1);
        fault("t0;", 1, 2);
        fault("t1;", 1, 2);
        fault("t7;", 1, 2);
        fault("t99;", 1, 2);
        fault("t002;", 1, 1);
        fault("t2", 2, 1);
        fault("t2,", 2, 1);
        fault("t2 ;", 2, 1);
        fault("t2;;", 3, 1);
        fault("t2;3", 3, 1);
        fault("t2;123", 3, 1);
        fault("t2;t2;", 3, 1);
        fault("t2;b1,1;", 3, 1);
        fault("t2;z1,1;", 3, 1);
        fault("t2;A1,1;", 3, 1);
        fault("t2;a", 4, 1);
        fault("t2;a,1;", 4, 1);
        fault("t2;aa1,1;", 4, 1);
        fault("t2;a0,1;", 4, 2);
        fault("t2;a4,1;", 4, 2);
        fault("t2;a100,1;", 4, 1);
        fault("t6;a64,1;", 4, 2);
        fault("t2;a1", 5, 1);
        fault("t2;a1;", 5, 1);
        fault("t2;a01 1;", 6, 1);
        fault("t2;a1,", 6, 1);
        fault("t2;a1,,", 6, 1);
        fault("t2;a1,41;", 6, 2);
        fault("t2;a1,99;", 6, 2);
        fault("t2;a1,000;", 6, 1);
        fault("t2;a1,40", 8, 1);
        fault("t2;a1,40,", 8, 1);
        fault("t2;a1,1; ", 8, 1);
        fault("t2;a1,1;q", 9, 1);
        // The first of several, by its TOKEN.
        fault("t2;a4,41", 4, 2);
        fault("t2;x4,41", 3, 1);
        String eight = "t2;a1,1;a1,1;a1,1;a1,1;a1,1;a1,1;a1,1;a1,1;";
        fault(eight + "a1,1;", 43, 3);
        fault(eight + "n", 43, 3);
        fault(eight + "nothing", 43, 3);
        fault(eight + "x1,1;", 43, 1);
        fault(eight + "t2;", 43, 1);
        fault(eight + "7", 43, 1);
        fault(eight + ";", 43, 1);
        TableShares x = new TableShares();
        int[] letters = {'t', '2', ';', 200};
        for (int letter : letters) {
            x.feed(letter);
        }
        due("a byte above 127", x.table(), FAULTS - 3);
        int[] nearby = {'/', ':', '`', '{', 0, 9, 10, 13};
        for (int letter : nearby) {
            x.feed('t');
            x.feed('2');
            x.feed(';');
            x.feed(letter);
            due("byte " + letter, x.table(), FAULTS - 3);
            x.feed('t');
            x.feed('2');
            x.feed(letter);
            due("byte " + letter + " behind a figure", x.table(), FAULTS - 2);
        }
    }

    private static void faultChangesNothing() {
        TableShares x = new TableShares();
        due("a TABLE", read(x, "t3;a3,5;"), 1);
        x.image(0);
        x.row(0, 0, 2);
        x.away(1, 1);
        x.meals(2);
        x.ask(0, 1);
        due("a FAULT", read(x, "t4;a7,9;q9,41;"), FAULTS - 11);
        due("fault()", x.fault(), 2);
        due("PEOPLE", x.count(1), 3);
        due("TIES", x.count(2), 1);
        due("SET", x.tieHas(0, 0), 3);
        due("MEALS", x.count(3), 2);
        due("AWAY", x.count(4), 1);
        due("ACTS", x.count(5), 3);
        due("ROWS", x.count(0), 1);
        due("TRACE", x.trace(0), 21);
        due("another FAULT", read(x, "t4;a"), FAULTS - 4);
        due("fault()", x.fault(), 1);
        due("no FAULT", read(x, "t4;"), 0);
        due("fault() of the one before", x.fault(), 1);
    }

    private static void tableTakesThePlace() {
        TableShares x = new TableShares();
        read(x, "t3;a3,5;y1,2;");
        x.image(1);
        x.row(0, 0, 2);
        x.away(0, 1);
        x.meals(3);
        due("another TABLE", read(x, "t5;n1,9;"), 1);
        due("PEOPLE", x.count(1), 5);
        due("MEALS", x.count(3), 0);
        due("AWAY", x.count(4), 0);
        due("ACTS", x.count(5), 0);
        due("SPOKEN", x.tableHas(4), 0);
        due("undo()", x.undo(), STATE);
        due("KIND", x.kind(0), 5);
        due("a TIE that is no more", x.kind(1), BAD);
        due("ROWS", x.count(0), 1);
        due("restore(1)", x.restore(1), 1);
        due("PEOPLE of the IMAGE", x.count(1), 3);
    }
}
