// Promises 30 to 33 (kind, as, ask, trace).
public final class AskedTest {
    private static final int NONE = -1000000, BAD = -1000001, KIND = -1000013;
    private static final int LEAST = Integer.MIN_VALUE, MOST = Integer.MAX_VALUE;
    private static int wrong = 0;

    private static void due(String call, long got, long want) {
        if (got != want) {
            wrong++;
            System.out.println(call + " answered " + got + ", due is " + want);
        }
    }

    public static void main(String[] args) {
        kindsAreTold();
        tiesAreTakenAs();
        tiesAreAsked();
        askIsRefused();
        System.out.println(wrong == 0 ? "all answers are as due" : wrong + " answers are not as due");
        if (wrong != 0) {
            System.exit(1);
        }
    }

    private static TableShares read(String text) {
        TableShares x = new TableShares();
        for (int i = 0; i < text.length(); i++) {
            x.feed(text.charAt(i));
        }
        x.table();
        return x;
    }

    private static void kindsAreTold() {
        TableShares x = read("t2;n1,1;y1,1;m1,1;q1,1;a1,1;");
        for (int tie = 0; tie < 5; tie++) {
            due("kind(" + tie + ")", x.kind(tie), 5 - tie);
        }
        x.tie(4, 1, 1);
        due("kind(5)", x.kind(5), 4);
        int[] bad = {-1, 6, 8, LEAST, MOST};
        for (int tie : bad) {
            due("kind(" + tie + ")", x.kind(tie), BAD);
        }
        x.untie();
        due("kind(5) of a TIE undone", x.kind(5), BAD);
    }

    private static void tiesAreTakenAs() {
        TableShares x = read("t2;a1,1;q1,1;m1,1;y1,1;n1,1;");
        // By TIE, the KINDS that it is.
        int[][] is = {{1, 1, 0, 0, 0, 0}, {1, 1, 1, 0, 0, 0}, {1, 1, 0, 1, 0, 0}, {1, 0, 0, 0, 1, 0},
            {1, 0, 0, 0, 1, 1}};
        for (int tie = 0; tie < 5; tie++) {
            for (int kind = 0; kind < 6; kind++) {
                due("as(" + tie + ", " + kind + ")", x.as(tie, kind), is[tie][kind] == 1 ? tie : KIND);
                due("status()", x.status(), is[tie][kind] == 1 ? 0 : 3);
            }
        }
        int[] bad = {-1, 6, LEAST, MOST};
        for (int n : bad) {
            due("as(0, " + n + ")", x.as(0, n), BAD);
            due("as(" + n + ", 0)", x.as(n, 0), BAD);
        }
        due("as(5, 0)", x.as(5, 0), BAD);
        due("as(0, 0) of no TABLE", new TableShares().as(0, 0), BAD);
    }

    private static void asked(TableShares x, int tie, int what, int answer, int... bodies) {
        String call = "ask(" + tie + ", " + what + ")";
        due(call, x.ask(tie, what), answer);
        for (int i = 0; i < 17; i++) {
            due(call + ", trace(" + i + ")", x.trace(i), i < bodies.length ? bodies[i] : NONE);
        }
    }

    private static void tiesAreAsked() {
        TableShares x = read("t4;a7,5;q7,6;m7,7;y7,8;n7,9;a9,1;");
        x.away(2, 1);
        asked(x, 0, 0, 5 + 2, 11, 10, 21, 20);
        asked(x, 0, 1, 2, 21, 20);
        asked(x, 1, 0, -(6 + 6), 12, 11, 10, 24, 21, 20);
        asked(x, 1, 1, 2 * (1 + 2), 24, 21, 20);
        asked(x, 2, 0, 7 + 4 - 1000, 11, 10, 22, 21, 20);
        asked(x, 2, 1, 2 + 2 - 1000, 22, 21, 20);
        asked(x, 3, 0, 8 - 100, 13, 10);
        asked(x, 3, 1, 3 + 92, 23, 20, 13, 10);
        asked(x, 4, 0, 2 * (9 - 100), 14, 13, 10);
        asked(x, 4, 1, 4 + 182, 23, 20, 14, 13, 10);
        asked(x, 5, 0, 1 + 5 + 2, 11, 10, 21, 20);
        x.away(0, 1);
        x.away(1, 1);
        asked(x, 0, 1, 0, 21, 20);
        asked(x, 5, 1, 5 + 1, 21, 20);
        due("status()", x.status(), 0);
    }

    private static void askIsRefused() {
        TableShares x = read("t2;a3,5;");
        due("trace(0) at first", x.trace(0), NONE);
        int[] nowhere = {-1, 16, LEAST, MOST};
        x.ask(0, 1);
        for (int i : nowhere) {
            due("trace(" + i + ")", x.trace(i), NONE);
        }
        int[] bad = {-1, 2, LEAST, MOST};
        for (int n : bad) {
            due("ask(0, " + n + ")", x.ask(0, n), BAD);
            due("ask(" + n + ", 0)", x.ask(n, 0), BAD);
            due("ask(" + n + ", 9)", x.ask(n, 9), BAD);
        }
        due("ask(1, 0)", x.ask(1, 0), BAD);
        due("trace(0) after BAD", x.trace(0), 21);
        due("trace(1) after BAD", x.trace(1), 20);
        due("trace(2) after BAD", x.trace(2), NONE);
        x.untie();
        due("ask(0, 0) of no TIE", x.ask(0, 0), BAD);
        due("trace(0) stays", x.trace(0), 21);
        due("ask(0, 0) of no TABLE", new TableShares().ask(0, 0), BAD);
    }
}
