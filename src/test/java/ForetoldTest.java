// Promises 14 to 27: what ties and tables have, and all that is foretold.
public final class ForetoldTest {
    private static final int NONE = -1000000, BAD = -1000001, STATE = -1000002, NULL = -1000011, PLACE = -1000012;
    private static final int LEAST = Integer.MIN_VALUE, MOST = Integer.MAX_VALUE;
    private static final int[] NO_HALVES = {-1, 2, LEAST, MOST};
    private static int wrong = 0;

    private static void due(String call, long got, long want) {
        if (got != want) {
            wrong++;
            System.out.println(call + " answered " + got + ", due is " + want);
        }
    }

    public static void main(String[] args) {
        tiesCount();
        tablesHave();
        setsAreWorth();
        peopleAdd();
        peopleAreDue();
        peopleAreMissed();
        setsLeave();
        pairsAreMissedTogether();
        setsCouldBeAway();
        fewestAreEnough();
        bestIsFound();
        oneIsBrought();
        kindsAreSeen();
        coldsAreLikely();
        nothingChanges();
        System.out.println(wrong == 0 ? "all answers are as due" : wrong + " answers are not as due");
        if (wrong != 0) {
            System.exit(1);
        }
    }

    private static TableShares read(String text) {
        TableShares x = new TableShares();
        for (int i = 0; i < text.length(); i++) {
            x.feed(text.charAt(i));
        }
        x.table();
        return x;
    }

    private static void row(TableShares x, int row, int... items) {
        x.row(row, 2, items.length);
        for (int i = 0; i < items.length; i++) {
            x.set(row, i, items[i]);
        }
    }

    // One TIE of SET 0, 1, 2 and WORTH 5, by who is there of four.
    private static void tiesCount() {
        String sorts = "aqmyn";
        int[][] counts = {
            {0, 0, 0, 0, 0, 0, 0, 5},
            {0, 0, 0, 0, 0, 0, 0, -5},
            {0, 0, 0, 5, 0, 5, 5, 10},
            {0, 5, 5, 5, 5, 5, 5, 5},
            {5, 0, 0, 0, 0, 0, 0, 0}};
        for (int sort = 0; sort < 5; sort++) {
            TableShares x = read("t4;" + sorts.charAt(sort) + "7,5;");
            for (int set = 0; set < 16; set++) {
                for (int person = 0; person < 4; person++) {
                    x.away(person, 1 - (set >> person & 1));
                }
                due("SORT " + sorts.charAt(sort) + ", there " + set, x.tieHas(0, 2), counts[sort][set & 7]);
                due("worth(" + set + ") of SORT " + sorts.charAt(sort), x.worth(set), counts[sort][set & 7]);
            }
            due("SET", x.tieHas(0, 0), 7);
            due("WORTH", x.tieHas(0, 1), 5);
        }
        TableShares x = read("t2;a1,1;y2,2;");
        int[] ties = {-1, 2, 8, LEAST, MOST};
        for (int tie : ties) {
            due("tieHas(" + tie + ", 0)", x.tieHas(tie, 0), BAD);
        }
        int[] bad = {-1, 3, LEAST, MOST};
        for (int what : bad) {
            due("tieHas(0, " + what + ")", x.tieHas(0, what), BAD);
        }
        due("tieHas of no TABLE", new TableShares().tieHas(0, 0), BAD);
    }

    private static void tablesHave() {
        TableShares x = read("t4;a3,7;y8,2;n8,9;");
        x.away(3, 1);
        x.meals(2);
        x.away(1, 1);
        int[] has = {5, 9, 9, 2, 32};
        for (int what = 0; what < 5; what++) {
            due("tableHas(" + what + ")", x.tableHas(what), has[what]);
        }
        int[] bad = {-1, 5, LEAST, MOST};
        for (int what : bad) {
            due("tableHas(" + what + ")", x.tableHas(what), BAD);
            due("tableHas(" + what + ") of no TABLE", new TableShares().tableHas(what), STATE);
        }
    }

    private static void setsAreWorth() {
        TableShares x = read("t3;a3,7;q6,5;n7,4;m5,3;");
        int[] worths = {4, 0, 0, 7, 0, 3, -5, 5};
        x.away(0, 1);
        for (int set = 0; set < 8; set++) {
            due("worth(" + set + ")", x.worth(set), worths[set]);
        }
        int[] bad = {-1, 8, LEAST, MOST};
        for (int set : bad) {
            due("worth(" + set + ")", x.worth(set), BAD);
            due("worth(" + set + ") of no TABLE", new TableShares().worth(set), STATE);
        }
        TableShares six = read("t6;m63,40;m63,40;m63,40;m63,40;m63,40;m63,40;m63,40;m63,40;");
        due("the most that a set is WORTH", six.worth(63), 1600);
        due("worth(64) of six", six.worth(64), BAD);
    }

    private static void peopleAdd() {
        TableShares x = read("t3;a3,7;q6,5;n7,4;m5,3;");
        x.away(2, 1);
        due("adds(0, 0)", x.adds(0, 0), -4);
        due("adds(0, 2)", x.adds(0, 2), 7);
        due("adds(2, 2)", x.adds(2, 2), -5);
        due("adds(2, 3)", x.adds(2, 3), -2);
        due("adds(1, 5)", x.adds(1, 5), 2);
        due("adds(1, 7)", x.adds(1, 7), BAD);
        due("adds(1, 2)", x.adds(1, 2), BAD);
        int[] bad = {-1, 8, LEAST, MOST};
        for (int n : bad) {
            due("adds(0, " + n + ")", x.adds(0, n), BAD);
            due("adds(" + n + ", 0)", x.adds(n, 0), BAD);
        }
        due("adds(3, 0)", x.adds(3, 0), BAD);
        due("adds(32, 0)", x.adds(32, 0), BAD);
    }

    private static void peopleAreDue() {
        // a3,7: halves; m7,2: each pair alike: 4 by three; q6,5: halves below 0.
        TableShares x = read("t3;a3,7;m7,2;q6,5;");
        x.away(0, 1);
        int[][] due = {{29, 6}, {7, 3}, {-7, 6}};
        for (int person = 0; person < 3; person++) {
            due("due(" + person + ", 0)", x.due(person, 0), due[person][0]);
            due("due(" + person + ", 1)", x.due(person, 1), due[person][1]);
        }
        TableShares none = read("t6;");
        due("due(5, 0), nothing", none.due(5, 0), 0);
        due("due(5, 1), nothing", none.due(5, 1), 1);
        TableShares even = read("t2;a3,4;q3,4;");
        due("due(0, 0), nothing left", even.due(0, 0), 0);
        due("due(0, 1), nothing left", even.due(0, 1), 1);
        // Who comes first of six takes the WORTH of nobody away.
        TableShares six = read("t6;n63,1;");
        due("due(3, 0)", six.due(3, 0), -1);
        due("due(3, 1)", six.due(3, 1), 6);
        for (int bad : NO_HALVES) {
            due("due(0, " + bad + ")", x.due(0, bad), BAD);
        }
        int[] people = {-1, 3, LEAST, MOST};
        for (int person : people) {
            due("due(" + person + ", 0)", x.due(person, 0), BAD);
        }
        due("due(0, 0) of no TABLE", new TableShares().due(0, 0), BAD);
    }

    private static void peopleAreMissed() {
        TableShares x = read("t3;a3,7;q6,5;n1,4;");
        x.away(1, 1);
        due("missed(0)", x.missed(0), 3);
        due("missed(1)", x.missed(1), 2);
        due("missed(2)", x.missed(2), -5);
        int[] people = {-1, 3, LEAST, MOST};
        for (int person : people) {
            due("missed(" + person + ")", x.missed(person), BAD);
        }
        due("missed(0) of no TABLE", new TableShares().missed(0), BAD);
    }

    private static void setsLeave() {
        TableShares x = read("t3;a3,7;y4,2;m7,1;");
        row(x, 0, 4, 4, 3);
        due("leaves: nobody", x.leaves(0, 0), NONE);
        due("status()", x.status(), 0);
        row(x, 0, 9, 4, 3, 3);
        due("leaves: 1 and 2, from 1 on", x.leaves(0, 1), 3);
        row(x, 0, 4, 4, 1);
        due("leaves: 2 alone", x.leaves(0, 0), 4);
        row(x, 0, -1, 9, 9);
        due("leaves: 0 alone", x.leaves(0, 0), 1);
        row(x, 0, 0, 0, 0);
        due("leaves: 0 and 1", x.leaves(0, 0), 3);
        row(x, 0, 4, 4, 2);
        due("leaves: all, each tie told", x.leaves(0, 0), 7);
        row(x, 0, MOST, MOST, MOST);
        due("leaves: shares that no int holds", x.leaves(0, 0), NONE);
        row(x, 0, 0, 9, LEAST);
        due("leaves: shares far below 0", x.leaves(0, 0), 4);
        TableShares six = read("t6;");
        row(six, 0, LEAST + 1, LEAST, 0, 0, 0, 0);
        due("leaves, six", six.leaves(0, 0), 1);
        row(x, 1, 4, 4);
        due("leaves(1, 0)", x.leaves(1, 0), PLACE);
        int[] places = {-1, 1, 3, LEAST, MOST};
        for (int i : places) {
            due("leaves(0, " + i + ")", x.leaves(0, i), PLACE);
            due("leaves(2, " + i + ")", x.leaves(2, i), NULL);
        }
        int[] rows = {-1, 8, LEAST, MOST};
        for (int row : rows) {
            due("leaves(" + row + ", 9)", x.leaves(row, 9), BAD);
            due("leaves(" + row + ", 9) of no TABLE", new TableShares().leaves(row, 9), STATE);
        }
        TableShares negative = read("t2;q1,5;q3,5;");
        row(negative, 0, -6, 1);
        due("leaves: less below 0", negative.leaves(0, 0), 1);
        row(negative, 0, -5, -1);
        due("leaves: as much is not more", negative.leaves(0, 0), 2);
    }

    private static void pairsAreMissedTogether() {
        TableShares x = read("t4;y3,5;y12,1;");
        x.away(0, 1);
        due("together(0)", x.together(0), 2);
        due("together(1)", x.together(1), 1);
        x = read("t4;y12,1;a1,3;");
        due("together(0)", x.together(0), 1);
        due("together(1)", x.together(1), 23);
        x = read("t4;y3,5;a1,3;");
        due("together(0), one missed alone", x.together(0), 0);
        due("together(1), one missed alone", x.together(1), NONE);
        x = read("t4;y3,5;q1,3;");
        due("together(0), one missed less than 0", x.together(0), 0);
        x = read("t4;y3,5;a2,3;");
        due("together(0), the other missed alone", x.together(0), 0);
        x = read("t4;n3,5;");
        due("together(0), all WORTH more without", x.together(0), 0);
        x = read("t2;y3,1;");
        due("together(1), all of two", x.together(1), 1);
        for (int what : NO_HALVES) {
            due("together(" + what + ")", x.together(what), BAD);
            due("together(" + what + ") of no TABLE", new TableShares().together(what), STATE);
        }
    }

    private static void setsCouldBeAway() {
        TableShares x = read("t3;a3,7;q6,5;n7,4;");
        x.away(0, 1);
        // WORTH of those left, by who is away: 7 away: 4; 0: 2; 1: -5; 4: 7; all else: 0.
        int[][] asked = {{0, 4, 2}, {2, 1, 0}, {-5, 1, 1}, {7, 1, 4}, {4, 1, 7}, {3, 0, NONE}, {-999, 0, NONE},
            {9999, 0, NONE}};
        for (int[] a : asked) {
            due("whoAway(" + a[0] + ", 0)", x.whoAway(a[0], 0), a[1]);
            due("whoAway(" + a[0] + ", 1)", x.whoAway(a[0], 1), a[2]);
        }
        for (int bad : NO_HALVES) {
            due("whoAway(0, " + bad + ")", x.whoAway(0, bad), BAD);
            due("whoAway(0, " + bad + ") of no TABLE", new TableShares().whoAway(0, bad), STATE);
        }
        int[] values = {-1000, 10000, LEAST, MOST};
        for (int v : values) {
            due("whoAway(" + v + ", 0)", x.whoAway(v, 0), BAD);
        }
    }

    private static void fewestAreEnough() {
        TableShares x = read("t4;a6,7;a9,7;y8,3;q1,2;");
        x.away(3, 1);
        int[][] asked = {{-999, 0, 0}, {0, 0, 0}, {1, 1, 8}, {3, 1, 8}, {4, 2, 6}, {7, 2, 6}, {8, 2, 9}, {9, 3, 14},
            {10, 3, 14}, {11, 4, 15}, {15, 4, 15}, {16, NONE, NONE}, {9999, NONE, NONE}};
        for (int[] a : asked) {
            due("enough(" + a[0] + ", 0)", x.enough(a[0], 0), a[1]);
            due("enough(" + a[0] + ", 1)", x.enough(a[0], 1), a[2]);
        }
        for (int bad : NO_HALVES) {
            due("enough(0, " + bad + ")", x.enough(0, bad), BAD);
            due("enough(0, " + bad + ") of no TABLE", new TableShares().enough(0, bad), STATE);
        }
        int[] values = {-1000, 10000, LEAST, MOST};
        for (int v : values) {
            due("enough(" + v + ", 0)", x.enough(v, 0), BAD);
        }
    }

    private static void bestIsFound() {
        TableShares x = read("t4;a7,9;a8,9;q15,9;");
        x.away(3, 1);
        due("best(0): one of fewer PEOPLE", x.best(0), 8);
        due("best(1)", x.best(1), 9);
        x = read("t4;a12,9;a10,9;q14,9;");
        due("best(0): the least of as many", x.best(0), 10);
        x = read("t4;n15,9;a3,8;");
        due("best(0): an empty set", x.best(0), 0);
        due("best(1): an empty set", x.best(1), 9);
        x = read("t2;q3,9;q1,1;n1,0;");
        due("best(1): nothing", x.best(1), 0);
        x = read("t4;m15,1;");
        due("best(0): all PEOPLE", x.best(0), 15);
        due("best(1): all PEOPLE", x.best(1), 3);
        x = read("t4;y15,3;");
        due("best(0): the first one", x.best(0), 1);
        due("best(1): the first one", x.best(1), 3);
        x = read("t2;");
        due("best(0): no TIES", x.best(0), 0);
        for (int bad : NO_HALVES) {
            due("best(" + bad + ")", x.best(bad), BAD);
            due("best(" + bad + ") of no TABLE", new TableShares().best(bad), STATE);
        }
    }

    private static void oneIsBrought() {
        TableShares x = read("t4;a3,7;q5,2;y8,5;a9,2;");
        due("bring(0): nobody is AWAY", x.bring(0), NONE);
        due("bring(1): nobody is AWAY", x.bring(1), NONE);
        x.away(2, 1);
        due("bring(0): the only one", x.bring(0), 2);
        due("bring(1): the only one, below 0", x.bring(1), -2);
        x.away(3, 1);
        x.away(1, 1);
        due("bring(0): the first of two alike", x.bring(0), 1);
        due("bring(1): the first of two alike", x.bring(1), 7);
        x.away(0, 1);
        due("bring(0): to nobody", x.bring(0), 3);
        due("bring(1): to nobody", x.bring(1), 5);
        x.away(1, 0);
        due("bring(0): the first one", x.bring(0), 0);
        due("bring(1): the first one", x.bring(1), 7);
        for (int bad : NO_HALVES) {
            due("bring(" + bad + ")", x.bring(bad), BAD);
            due("bring(" + bad + ") of no TABLE", new TableShares().bring(bad), STATE);
        }
    }

    private static void kindsAreSeen() {
        TableShares x = read("t3;a3,7;y4,2;");
        x.away(0, 1);
        row(x, 0, 3, 7, 1, 0, 0, 7, 7, 9, 3, 8, 8, 0);
        due("which, no MEALS", x.which(0, 0, 0, 0), 62);
        due("which, both there", x.which(0, 0, 0, 1), 1 << 1 | 1 << 3 | 1 << 4);
        due("which, and one alone", x.which(0, 0, 0, 2), 1 << 1 | 1 << 3);
        due("which, and nobody", x.which(0, 0, 0, 3), 0);
        due("which, one alone", x.which(0, 0, 2, 1), 62 & ~(1 << 4));
        due("which, nobody", x.which(0, 0, 4, 1), 1 << 5);
        due("which, all else as it is", x.which(0, 0, 6, 1), 1 << 1 | 1 << 3 | 1 << 4);
        due("which, of the other TIE", x.which(1, 0, 0, 1), 62 & ~(1 << 5));
        due("which, by no KIND", x.which(0, 0, 8, 1), 0);
        due("which, no MEALS at the end", x.which(0, 0, 12, 0), 62);
        due("status()", x.status(), 0);
        row(x, 1, 3, -7);
        due("which, a quarrel", x.which(0, 1, 0, 1), 1 << 2);
        row(x, 4, 1, 0, 2, 0, 7, 9, 3, 9);
        due("which, three MEALS", x.which(0, 4, 0, 3), 1 << 1 | 1 << 3);
        due("which, four MEALS", x.which(0, 4, 0, 4), 0);
        row(x, 4, 1, 0, 2, 0, 9, 7, 3, 7);
        due("which, no set in the third MEAL", x.which(0, 4, 0, 4), BAD);
        due("which, no set behind the MEALS", x.which(0, 4, 0, 2), 62 & ~(1 << 4));
        due("which, no set at last", x.which(0, 0, 6, 3), BAD);
        row(x, 2, -1, 0, 0, -1);
        due("which, a set below 0", x.which(0, 2, 0, 1), BAD);
        due("which, WORTH below 0", x.which(0, 2, 2, 1), 0);
        due("which, WORTH where a set ought to be", x.which(0, 2, 1, 1), 62 & ~(1 << 5));
        x.row(3, 0, 40);
        due("which, ten MEALS", x.which(0, 3, 20, 10), 62 & ~(1 << 5));
        due("which, one place too few", x.which(0, 3, 21, 10), PLACE);
        due("which(0, 0, 13, 0)", x.which(0, 0, 13, 0), PLACE);
        due("which(0, 0, -1, 0)", x.which(0, 0, -1, 0), PLACE);
        due("which(0, 0, LEAST, 5)", x.which(0, 0, LEAST, 5), PLACE);
        due("which(0, 0, MOST, 5)", x.which(0, 0, MOST, 5), PLACE);
        due("which(0, 5, 0, 0)", x.which(0, 5, 0, 0), NULL);
        due("which(0, 5, 99, 10)", x.which(0, 5, 99, 10), NULL);
        int[] bad = {-1, 11, LEAST, MOST};
        for (int n : bad) {
            due("which(0, 5, 0, " + n + ")", x.which(0, 5, 0, n), BAD);
            due("which(" + n + ", 5, 0, 0)", x.which(n, 5, 0, 0), BAD);
            due("which(0, " + n + ", 0, 0)", x.which(0, n, 0, 0), BAD);
        }
        due("which(2, 0, 0, 0)", x.which(2, 0, 0, 0), BAD);
        due("which(0, 8, 0, 0)", x.which(0, 8, 0, 0), BAD);
    }

    private static void coldsAreLikely() {
        TableShares x = read("t3;a3,7;y4,2;");
        int[][] asked = {{-999, 5, 1, 1}, {0, 10, 1, 1}, {1, 10, 0, 1}, {9, 0, 1, 1}, {10, 0, 0, 1}, {9, 5, 1, 8},
            {7, 3, 49, 100}, {2, 3, 847, 1000}, {2, 5, 5, 8}, {9999, 1, 0, 1}, {9, 9, 1, 1000}};
        for (int[] a : asked) {
            due("colds(" + a[0] + ", " + a[1] + ", 0)", x.colds(a[0], a[1], 0), a[2]);
            due("colds(" + a[0] + ", " + a[1] + ", 1)", x.colds(a[0], a[1], 1), a[3]);
        }
        x.away(0, 1);
        due("colds(2, 3, 0), one AWAY", x.colds(2, 3, 0), 7);
        due("colds(2, 3, 1), one AWAY", x.colds(2, 3, 1), 10);
        due("colds(7, 3, 0), one AWAY", x.colds(7, 3, 0), 0);
        x.away(1, 1);
        x.away(2, 1);
        due("colds(0, 3, 0), all AWAY", x.colds(0, 3, 0), 1);
        due("colds(0, 3, 1), all AWAY", x.colds(0, 3, 1), 1);
        due("colds(1, 3, 0), all AWAY", x.colds(1, 3, 0), 0);
        due("colds(1, 3, 1), all AWAY", x.colds(1, 3, 1), 1);
        TableShares six = read("t6;m63,1;");
        due("colds(5, 1, 0), six", six.colds(5, 1, 0), 531441);
        due("colds(5, 1, 1), six", six.colds(5, 1, 1), 1000000);
        for (int bad : NO_HALVES) {
            due("colds(0, 0, " + bad + ")", x.colds(0, 0, bad), BAD);
            due("colds(0, 0, " + bad + ") of no TABLE", new TableShares().colds(0, 0, bad), STATE);
        }
        int[] values = {-1000, 10000, LEAST, MOST};
        for (int v : values) {
            due("colds(" + v + ", 0, 0)", x.colds(v, 0, 0), BAD);
        }
        int[] tenths = {-1, 11, LEAST, MOST};
        for (int c : tenths) {
            due("colds(0, " + c + ", 0)", x.colds(0, c, 0), BAD);
        }
    }

    private static void nothingChanges() {
        TableShares x = read("t3;a3,7;y4,2;");
        row(x, 0, 3, 7, 1);
        x.away(0, 1);
        x.meals(1);
        x.worth(7);
        x.adds(0, 6);
        x.due(0, 0);
        x.missed(0);
        x.leaves(0, 0);
        x.together(0);
        x.whoAway(7, 0);
        x.enough(7, 0);
        x.best(0);
        x.bring(0);
        x.which(0, 0, 0, 1);
        x.colds(2, 3, 0);
        int[] counts = {1, 3, 2, 1, 1, 2, 0};
        for (int what = 0; what < 7; what++) {
            due("count(" + what + ") after all was foretold", x.count(what), counts[what]);
        }
        due("kind(0) after all was foretold", x.kind(0), 1);
        due("tableHas(4) after all was foretold", x.tableHas(4), 2);
    }
}
