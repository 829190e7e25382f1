// Promises 9 to 13 (away, tie, untie, meals, undo), 28 and 29 (image, restore), 34 (count).
public final class ActsTest {
    private static final int BAD = -1000001, STATE = -1000002, FULL = -1000003;
    private static final int LEAST = Integer.MIN_VALUE, MOST = Integer.MAX_VALUE;
    private static int wrong = 0;

    private static void due(String call, long got, long want) {
        if (got != want) {
            wrong++;
            System.out.println(call + " answered " + got + ", due is " + want);
        }
    }

    public static void main(String[] args) {
        peopleGoAndCome();
        tiesAreTold();
        tiesAreUndone();
        mealsAreSpoken();
        actsAreUndone();
        oldestActsAreForgotten();
        imagesAreKept();
        thingsAreCounted();
        System.out.println(wrong == 0 ? "all answers are as due" : wrong + " answers are not as due");
        if (wrong != 0) {
            System.exit(1);
        }
    }

    private static TableShares read(String text) {
        TableShares x = new TableShares();
        for (int i = 0; i < text.length(); i++) {
            x.feed(text.charAt(i));
        }
        x.table();
        return x;
    }

    private static void peopleGoAndCome() {
        TableShares x = read("t3;");
        due("away(2, 1)", x.away(2, 1), 4);
        due("away(0, 1)", x.away(0, 1), 5);
        due("away(0, 1) again", x.away(0, 1), STATE);
        due("away(1, 0) who is there", x.away(1, 0), STATE);
        due("away(1, 1)", x.away(1, 1), 7);
        due("away(2, 0)", x.away(2, 0), 3);
        due("count(5)", x.count(5), 4);
        int[] people = {-1, 3, 32, LEAST, MOST};
        for (int person : people) {
            due("away(" + person + ", 1)", x.away(person, 1), BAD);
        }
        int[] is = {-1, 2, LEAST, MOST};
        for (int i : is) {
            due("away(0, " + i + ")", x.away(0, i), BAD);
        }
        due("away(0, 1) of no TABLE", new TableShares().away(0, 1), BAD);
        due("tableHas(0)", x.tableHas(0), 4);
    }

    private static void tiesAreTold() {
        TableShares x = read("t3;a1,1;");
        due("tie(5, 7, 40)", x.tie(5, 7, 40), 1);
        due("KIND", x.kind(1), 5);
        due("SET", x.tieHas(1, 0), 7);
        due("WORTH", x.tieHas(1, 1), 40);
        due("tie(1, 1, 0)", x.tie(1, 1, 0), 2);
        int[] kinds = {0, -1, 6, LEAST, MOST};
        for (int kind : kinds) {
            due("tie(" + kind + ", 1, 1)", x.tie(kind, 1, 1), BAD);
        }
        int[] sets = {0, -1, 8, LEAST, MOST};
        for (int set : sets) {
            due("tie(1, " + set + ", 1)", x.tie(1, set, 1), BAD);
        }
        int[] worths = {-1, 41, LEAST, MOST};
        for (int worth : worths) {
            due("tie(1, 1, " + worth + ")", x.tie(1, 1, worth), BAD);
        }
        for (int tie = 3; tie < 8; tie++) {
            due("tie, number " + tie, x.tie(tie - 2, 2, tie), tie);
        }
        due("tie, one too many", x.tie(1, 1, 1), FULL);
        due("tie, one too many, BAD", x.tie(0, 1, 1), BAD);
        due("count(2)", x.count(2), 8);
        due("count(5)", x.count(5), 7);
        due("tie(0, 0, 0) of no TABLE", new TableShares().tie(0, 0, 0), STATE);
    }

    private static void tiesAreUndone() {
        TableShares x = read("t3;a1,1;q2,3;");
        due("worth(3)", x.worth(3), -2);
        due("untie()", x.untie(), 1);
        due("worth(3) without the TIE undone", x.worth(3), 1);
        due("untie()", x.untie(), 0);
        due("worth(3) without TIES", x.worth(3), 0);
        due("untie() of none", x.untie(), STATE);
        due("untie() of no TABLE", new TableShares().untie(), STATE);
        due("kind(0)", x.kind(0), BAD);
        due("tie(3, 3, 3)", x.tie(3, 3, 3), 0);
        due("undo()", x.undo(), 2);
        due("count(2)", x.count(2), 0);
        due("undo()", x.undo(), 1);
        due("KIND", x.kind(0), 1);
        due("SET", x.tieHas(0, 0), 1);
        due("undo()", x.undo(), 0);
        due("KIND", x.kind(1), 2);
        due("SET", x.tieHas(1, 0), 2);
        due("WORTH", x.tieHas(1, 1), 3);
        due("MEALS", x.count(3), 0);
        due("SPOKEN", x.tableHas(4), 0);
    }

    private static void mealsAreSpoken() {
        TableShares x = read("t2;a3,7;q1,2;");
        due("meals(1)", x.meals(1), 5);
        due("meals(3)", x.meals(3), 20);
        due("count(5)", x.count(5), 4);
        x.away(1, 1);
        due("meals(20), each WORTH -2", x.meals(20), -20);
        due("tableHas(3)", x.tableHas(3), 24);
        due("tableHas(4)", x.tableHas(4), -20);
        int[] bad = {0, -1, 21, LEAST, MOST};
        for (int n : bad) {
            due("meals(" + n + ")", x.meals(n), BAD);
        }
        due("meals(0) of no TABLE", new TableShares().meals(0), STATE);
        for (int i = 0; i < 48; i++) {
            x.meals(20);
        }
        due("count(3)", x.count(3), 984);
        due("meals(16)", x.meals(16), FULL);
        due("meals(21)", x.meals(21), BAD);
        due("meals(15)", x.meals(15), -20 - 975 * 2);
        due("count(3)", x.count(3), 999);
        due("meals(1)", x.meals(1), FULL);
        due("undo()", x.undo(), 23);
        due("count(3)", x.count(3), 998);
        due("meals(1)", x.meals(1), -20 - 975 * 2);
    }

    private static void actsAreUndone() {
        TableShares x = read("t3;a3,7;");
        x.away(0, 1);
        x.meals(1);
        x.away(0, 0);
        x.meals(2);
        x.tie(4, 4, 3);
        x.meals(1);
        due("SPOKEN", x.tableHas(4), 24);
        due("undo() of a MEAL", x.undo(), 6);
        due("SPOKEN", x.tableHas(4), 14);
        due("undo() of a TIE", x.undo(), 5);
        due("count(2)", x.count(2), 1);
        due("undo() of one MEAL of two", x.undo(), 4);
        due("SPOKEN", x.tableHas(4), 7);
        due("MEALS", x.count(3), 2);
        due("undo() of the other", x.undo(), 3);
        due("undo() of a return", x.undo(), 2);
        due("TIES", x.count(2), 1);
        due("who are there", x.tableHas(0), 6);
        due("undo() of a MEAL", x.undo(), 1);
        due("MEALS", x.count(3), 0);
        due("undo() of who went", x.undo(), 0);
        due("who are there", x.tableHas(0), 7);
        due("undo() of none", x.undo(), STATE);
        due("undo() of no TABLE", new TableShares().undo(), STATE);
    }

    private static void oldestActsAreForgotten() {
        TableShares x = read("t2;a1,1;");
        x.away(1, 1);
        for (int i = 0; i < 23; i++) {
            x.away(0, 1 - i % 2);
        }
        due("count(5)", x.count(5), 24);
        x.meals(1);
        due("count(5)", x.count(5), 24);
        for (int left = 23; left >= 0; left--) {
            due("undo()", x.undo(), left);
        }
        due("undo() of none", x.undo(), STATE);
        due("who are there: that person 1 went is forgotten", x.tableHas(0), 1);
    }

    private static void imagesAreKept() {
        TableShares x = new TableShares();
        int[] bad = {-1, 2, LEAST, MOST};
        for (int k : bad) {
            due("image(" + k + ") of no TABLE", x.image(k), BAD);
            due("restore(" + k + ") of no TABLE", x.restore(k), BAD);
        }
        due("image(0) of no TABLE", x.image(0), STATE);
        due("restore(0) of none", x.restore(0), STATE);
        x = read("t4;a3,7;m15,2;");
        x.away(3, 1);
        x.meals(2);
        due("image(1)", x.image(1), 1);
        due("ACTS stay", x.count(5), 3);
        due("restore(0)", x.restore(0), STATE);
        x.away(3, 0);
        x.untie();
        x.tie(5, 9, 9);
        x.meals(4);
        due("restore(1)", x.restore(1), 1);
        due("count(5)", x.count(5), 0);
        due("undo()", x.undo(), STATE);
        due("who are there", x.tableHas(0), 7);
        due("MEALS", x.tableHas(3), 2);
        due("SPOKEN", x.tableHas(4), 22);
        due("KIND", x.kind(1), 3);
        due("SET", x.tieHas(1, 0), 15);
        due("WORTH", x.tieHas(1, 1), 2);
        x.untie();
        x.tie(1, 1, 1);
        due("restore(1) again", x.restore(1), 1);
        due("the IMAGE is as it was", x.tieHas(1, 0), 15);
        x.untie();
        due("image(1) in place", x.image(1), 1);
        x.tie(1, 1, 1);
        x.restore(1);
        due("count(2)", x.count(2), 1);
        due("image(0)", x.image(0), 1);
    }

    private static void thingsAreCounted() {
        TableShares x = read("t6;a3,7;q3,7;m3,7;");
        x.row(0, 0, 0);
        x.row(5, 1, 4);
        x.away(5, 1);
        x.away(2, 1);
        x.meals(9);
        x.feed('t');
        x.feed(0);
        int[] counts = {2, 6, 3, 9, 2, 11, 2};
        for (int what = 0; what < 7; what++) {
            due("count(" + what + ")", x.count(what), counts[what]);
        }
        int[] bad = {-1, 7, LEAST, MOST};
        for (int what : bad) {
            due("count(" + what + ")", x.count(what), BAD);
        }
    }
}
