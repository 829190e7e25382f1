import java.util.ArrayDeque;
import java.util.ArrayList;
import java.util.Arrays;
import java.util.Deque;
import java.util.List;

// Long runs of calls, each answer compared with that of a model that is built another way: all orders are gone
// through one by one, acts are undone by what was before, asks go through the classes of the ties.
public final class ModelTest {
    private static final int NONE = -1000000, BAD = -1000001, STATE = -1000002, FULL = -1000003;
    private static final int RUNS = 2000, CALLS = 512, LOOK = 30;
    private static final int[] EDGES = {-1, 0, 1, 2, 3, 5, 6, 7, 8, 9, 10, 11, 16, 20, 21, 31, 32, 40, 41, 63, 64, 999,
        1000, -999, -1000, 9999, 10000, 127, 128, 32768, 65535, Integer.MIN_VALUE, Integer.MAX_VALUE};
    private static final int CALL_KINDS = 35;

    private static long seed = 1;
    private static int wrong = 0;
    private static final int[] well = new int[CALL_KINDS];
    private static final int[] refused = new int[CALL_KINDS];

    public static void main(String[] args) {
        for (int run = 0; run < RUNS && wrong < 20; run++) {
            oneRun(run);
        }
        for (int call = 0; call < CALL_KINDS; call++) {
            boolean never = call == 33 || call == 34;
            if (well[call] == 0 || refused[call] == 0 && !never) {
                wrong++;
                System.out.println("call " + call + " was well " + well[call] + " times, refused " + refused[call]);
            }
        }
        System.out.println(wrong == 0 ? "all answers are as due" : wrong + " answers are not as due");
        if (wrong != 0) {
            System.exit(1);
        }
    }

    private static int random(int below) {
        seed = seed * 6364136223846793005L + 1442695040888963407L;
        return (int) ((seed >>> 33) % below);
    }

    // No object is used for more calls than the document tells, those by which it is looked at too.
    private static void oneRun(int run) {
        TableShares x = new TableShares();
        Model m = new Model();
        List<String> calls = new ArrayList<>();
        int room = CALLS - LOOK;
        while (room > 0 && wrong < 20) {
            if (random(60) == 0 || room == CALLS - LOOK && run % 5 != 0) {
                String text = text();
                for (int i = 0; i < text.length() && room > 1; i++, room--) {
                    oneCall(x, m, 4, new int[] {text.charAt(i), 0, 0, 0, 0}, calls, run);
                }
                oneCall(x, m, 5, new int[5], calls, run);
            } else {
                int call = random(CALL_KINDS);
                oneCall(x, m, call, arguments(call, m), calls, run);
            }
            room--;
            if (run % 3 > 0 && random(12) == 0 && room >= LOOK) {
                look(x, m, calls, run);
                room -= LOOK;
            }
        }
        look(x, m, calls, run);
    }

    private static void oneCall(TableShares x, Model m, int call, int[] a, List<String> calls, int run) {
        calls.add("call " + call + " of " + Arrays.toString(a));
        int got = real(x, call, a);
        int want = m.answer(call, a);
        if (want <= NONE && want >= -1000300) {
            refused[call]++;
        } else {
            well[call]++;
        }
        dueSame(run, calls, "answer", got, want);
    }

    private static void look(TableShares x, Model m, List<String> calls, int run) {
        dueSame(run, calls, "status()", x.status(), m.status);
        dueSame(run, calls, "fault()", x.fault(), m.fault);
        for (int what = 0; what <= 6; what++) {
            dueSame(run, calls, "count(" + what + ")", x.count(what), m.count(what));
        }
        for (int what = 0; what <= 4; what++) {
            dueSame(run, calls, "tableHas(" + what + ")", x.tableHas(what), m.tableHas(what));
        }
        for (int i = 0; i < 16; i++) {
            dueSame(run, calls, "trace(" + i + ")", x.trace(i), i < m.trace.size() ? m.trace.get(i) : NONE);
        }
    }

    private static void dueSame(int run, List<String> calls, String what, int got, int want) {
        if (got != want) {
            wrong++;
            System.out.println("run " + run + ", " + calls.size() + " calls, the last " + calls.get(calls.size() - 1)
                    + ": " + what + " " + got + ", due is " + want);
        }
    }

    private static String text() {
        StringBuilder text = new StringBuilder();
        int people = 2 + random(5);
        text.append('t').append(people).append(';');
        int ties = random(9) + (random(12) == 0 ? 2 : 0);
        for (int i = 0; i < ties; i++) {
            int set = 1 + random((1 << people) - 1);
            text.append("aqmyn".charAt(random(5))).append(set < 10 && random(4) == 0 ? "0" : "").append(set);
            text.append(',').append(random(3) == 0 ? random(4) : random(41)).append(';');
        }
        if (random(5) == 0) {
            int spoilt = random(text.length());
            text.setCharAt(spoilt, "0123456789tqamyn,;x A/:`{".charAt(random(25)));
        }
        if (random(20) == 0) {
            text.setLength(random(text.length()));
        }
        return text.toString();
    }

    private static final int ROW = 0, ITEM = 1, N = 2, ANYTHING = 3, PERSON = 4, SET = 5, TIE = 6, HALF = 7, VALUE = 8,
        TENTH = 9, LETTER = 10, LANE = 11, KIND = 12, WORTH = 13, MEALS = 14, WHAT = 15, IMAGE = 16, FEW = 17;

    // By call, what each of its arguments is.
    private static final int[][] SHAPES = {
        {ROW, LANE, N}, {ROW, ITEM, ANYTHING}, {ROW, ITEM, ROW, ITEM, FEW}, {ROW}, {LETTER}, {}, {PERSON, HALF},
        {KIND, SET, WORTH}, {}, {MEALS}, {}, {TIE, WHAT}, {WHAT}, {SET}, {PERSON, SET}, {PERSON, HALF}, {PERSON},
        {ROW, ITEM}, {HALF}, {VALUE, HALF}, {VALUE, HALF}, {HALF}, {HALF}, {TIE, ROW, ITEM, FEW},
        {VALUE, TENTH, HALF}, {IMAGE}, {IMAGE}, {TIE}, {TIE, KIND}, {TIE, HALF}, {ITEM}, {WHAT}, {TIE, WHAT}, {}, {}};

    private static int[] arguments(int call, Model m) {
        int[] a = new int[5];
        for (int i = 0; i < SHAPES[call].length; i++) {
            a[i] = random(25) == 0 ? EDGES[random(EDGES.length)] : argument(SHAPES[call][i], m);
        }
        return a;
    }

    private static int argument(int shape, Model m) {
        int people = Math.max(2, m.now == null ? 0 : m.now.people);
        switch (shape) {
            case ROW: return random(5);
            case ITEM: return random(3) == 0 ? random(16) : random(3);
            case N: return random(4) == 0 ? random(43) - 1 : 4 + random(16);
            case ANYTHING: return random(3) == 0 ? random(1 << people) : random(40) == 0 ? EDGES[random(EDGES.length)]
                : m.now != null && random(2) == 0 ? m.now.worth(random(1 << people)) : random(70) - 10;
            case PERSON: return random(people);
            case SET: return random(1 << people);
            case TIE: return random(Math.max(1, m.now == null ? 0 : m.now.ties.size()));
            case HALF: return random(2);
            case VALUE: return m.now != null && random(3) > 0 ? m.now.worth(random(1 << people)) + random(5) / 4
                : random(200) - 100;
            case TENTH: return random(11);
            case LETTER: return "t2;a1q3,nmy0 ".charAt(random(13));
            case LANE: return random(3);
            case KIND: return random(6);
            case WORTH: return random(41);
            case MEALS: return 1 + random(20);
            case WHAT: return random(7);
            case IMAGE: return random(2);
            default: return random(5);
        }
    }

    private static int real(TableShares x, int call, int[] a) {
        switch (call) {
            case 0: return x.row(a[0], a[1], a[2]);
            case 1: return x.set(a[0], a[1], a[2]);
            case 2: return x.copy(a[0], a[1], a[2], a[3], a[4]);
            case 3: return x.drop(a[0]);
            case 4: return x.feed(a[0]);
            case 5: return x.table();
            case 6: return x.away(a[0], a[1]);
            case 7: return x.tie(a[0], a[1], a[2]);
            case 8: return x.untie();
            case 9: return x.meals(a[0]);
            case 10: return x.undo();
            case 11: return x.tieHas(a[0], a[1]);
            case 12: return x.tableHas(a[0]);
            case 13: return x.worth(a[0]);
            case 14: return x.adds(a[0], a[1]);
            case 15: return x.due(a[0], a[1]);
            case 16: return x.missed(a[0]);
            case 17: return x.leaves(a[0], a[1]);
            case 18: return x.together(a[0]);
            case 19: return x.whoAway(a[0], a[1]);
            case 20: return x.enough(a[0], a[1]);
            case 21: return x.best(a[0]);
            case 22: return x.bring(a[0]);
            case 23: return x.which(a[0], a[1], a[2], a[3]);
            case 24: return x.colds(a[0], a[1], a[2]);
            case 25: return x.image(a[0]);
            case 26: return x.restore(a[0]);
            case 27: return x.kind(a[0]);
            case 28: return x.as(a[0], a[1]);
            case 29: return x.ask(a[0], a[1]);
            case 30: return x.trace(a[0]);
            case 31: return x.count(a[0]);
            case 32: return x.tieHas(a[0], a[1] % 3);
            case 33: return x.fault();
            default: return x.status();
        }
    }

    // ---- the model's ties: what is asked goes through their classes

    private static class Tie {
        final int set;
        final int worth;

        Tie(int set, int worth) {
            this.set = set;
            this.worth = worth;
        }

        int counts(List<Integer> there) {
            return 0;
        }

        int size(Model m, int number) {
            m.leave(10);
            return worth;
        }

        int mark(Model m, int number) {
            m.leave(20);
            return number;
        }

        final List<Integer> here(List<Integer> there) {
            List<Integer> here = new ArrayList<>();
            for (int person : there) {
                if ((set & 1 << person) != 0) {
                    here.add(person);
                }
            }
            return here;
        }
    }

    private static class All extends Tie {
        All(int set, int worth) {
            super(set, worth);
        }

        @Override int counts(List<Integer> there) {
            return here(there).size() == Integer.bitCount(set) ? worth : 0;
        }

        @Override int size(Model m, int number) {
            m.leave(11);
            int lent = super.size(m, number);
            return lent + mark(m, number);
        }

        @Override int mark(Model m, int number) {
            m.leave(21);
            return super.mark(m, number) + here(m.now.there()).size();
        }
    }

    private static final class Quarrel extends All {
        Quarrel(int set, int worth) {
            super(set, worth);
        }

        @Override int counts(List<Integer> there) {
            return 0 - super.counts(there);
        }

        @Override int size(Model m, int number) {
            m.leave(12);
            return 0 - super.size(m, number);
        }

        @Override int mark(Model m, int number) {
            m.leave(24);
            return 2 * super.mark(m, number);
        }
    }

    private static final class More extends All {
        More(int set, int worth) {
            super(set, worth);
        }

        @Override int counts(List<Integer> there) {
            int sum = 0;
            List<Integer> here = here(there);
            for (int i = 1; i < here.size(); i++) {
                sum += worth;
            }
            return sum;
        }

        @Override int mark(Model m, int number) {
            m.leave(22);
            return super.mark(m, number) - 1000;
        }
    }

    private static class Any extends Tie {
        Any(int set, int worth) {
            super(set, worth);
        }

        @Override int counts(List<Integer> there) {
            return here(there).isEmpty() ? 0 : worth;
        }

        @Override int size(Model m, int number) {
            m.leave(13);
            return super.size(m, number) - 100;
        }

        @Override int mark(Model m, int number) {
            m.leave(23);
            int lent = super.mark(m, number);
            return lent - size(m, number);
        }
    }

    private static final class Nobody extends Any {
        Nobody(int set, int worth) {
            super(set, worth);
        }

        @Override int counts(List<Integer> there) {
            return here(there).isEmpty() ? worth : 0;
        }

        @Override int size(Model m, int number) {
            m.leave(14);
            return 2 * super.size(m, number);
        }
    }

    private static Tie tieOf(int kind, int set, int worth) {
        switch (kind) {
            case 1: return new All(set, worth);
            case 2: return new Quarrel(set, worth);
            case 3: return new More(set, worth);
            case 4: return new Any(set, worth);
            default: return new Nobody(set, worth);
        }
    }

    private static int kindOf(Tie tie) {
        return tie instanceof Quarrel ? 2 : tie instanceof More ? 3 : tie instanceof All ? 1
                : tie instanceof Nobody ? 5 : 4;
    }

    private static boolean isOf(Tie tie, int kind) {
        switch (kind) {
            case 1: return tie instanceof All;
            case 2: return tie instanceof Quarrel;
            case 3: return tie instanceof More;
            case 4: return tie instanceof Any;
            case 5: return tie instanceof Nobody;
            default: return true;
        }
    }

    // ---- a table of the model: never changed but by making another

    private static final class Table {
        final int people;
        final List<Tie> ties;
        final int away;
        final int meals;
        final int spoken;

        Table(int people, List<Tie> ties, int away, int meals, int spoken) {
            this.people = people;
            this.ties = ties;
            this.away = away;
            this.meals = meals;
            this.spoken = spoken;
        }

        static List<Integer> peopleOf(int set) {
            List<Integer> all = new ArrayList<>();
            for (int person = 0; person < 6; person++) {
                if ((set & 1 << person) != 0) {
                    all.add(person);
                }
            }
            return all;
        }

        int all() {
            return (1 << people) - 1;
        }

        List<Integer> there() {
            return peopleOf(all() - away);
        }

        int worth(int set) {
            int sum = 0;
            for (Tie tie : ties) {
                sum += tie.counts(peopleOf(set));
            }
            return sum;
        }

        Table with(List<Tie> other) {
            return new Table(people, other, away, meals, spoken);
        }
    }

    private static final class Model {
        final int[][] rows = new int[8][];
        final int[] lanes = new int[8];
        final Deque<Table> before = new ArrayDeque<>();
        final Table[] images = new Table[2];
        final List<Integer> trace = new ArrayList<>();
        final StringBuilder tape = new StringBuilder();
        Table now;
        int fault;
        int status;

        void leave(int body) {
            if (trace.size() < 16) {
                trace.add(body);
            }
        }

        int found(int number) {
            status = number;
            return -1000010 - number;
        }

        int well(int answer) {
            status = 0;
            return answer;
        }

        static boolean within(long n, long least, long most) {
            return n >= least && n <= most;
        }

        boolean isPerson(int n) {
            return now != null && within(n, 0, now.people - 1);
        }

        boolean isSet(int n) {
            return now != null && within(n, 0, now.all());
        }

        boolean isTie(int n) {
            return now != null && within(n, 0, now.ties.size() - 1);
        }

        void act(Table next) {
            before.addLast(now);
            if (before.size() > 24) {
                before.removeFirst();
            }
            now = next;
        }

        int answer(int call, int[] a) {
            switch (call) {
                case 0: return row(a[0], a[1], a[2]);
                case 1: return set(a[0], a[1], a[2]);
                case 2: return copy(a[0], a[1], a[2], a[3], a[4]);
                case 3: return drop(a[0]);
                case 4: return feed(a[0]);
                case 5: return table();
                case 6: return away(a[0], a[1]);
                case 7: return tie(a[0], a[1], a[2]);
                case 8: return untie();
                case 9: return meals(a[0]);
                case 10: return undo();
                case 11: return tieHas(a[0], a[1]);
                case 12: return tableHas(a[0]);
                case 13: return now == null ? STATE : isSet(a[0]) ? now.worth(a[0]) : BAD;
                case 14: return adds(a[0], a[1]);
                case 15: return due(a[0], a[1]);
                case 16: return isPerson(a[0]) ? now.worth(now.all()) - now.worth(now.all() - (1 << a[0])) : BAD;
                case 17: return leaves(a[0], a[1]);
                case 18: return together(a[0]);
                case 19: return whoAway(a[0], a[1]);
                case 20: return enough(a[0], a[1]);
                case 21: return best(a[0]);
                case 22: return bring(a[0]);
                case 23: return which(a[0], a[1], a[2], a[3]);
                case 24: return colds(a[0], a[1], a[2]);
                case 25: return image(a[0]);
                case 26: return restore(a[0]);
                case 27: return isTie(a[0]) ? kindOf(now.ties.get(a[0])) : BAD;
                case 28: return as(a[0], a[1]);
                case 29: return ask(a[0], a[1]);
                case 30: return within(a[0], 0, trace.size() - 1) ? trace.get(a[0]) : NONE;
                case 31: return count(a[0]);
                case 32: return tieHas(a[0], a[1] % 3);
                case 33: return fault;
                default: return status;
            }
        }

        int row(int row, int lane, int n) {
            if (!within(row, 0, 7) || !within(lane, 0, 2) || n > 40) {
                return BAD;
            }
            if (n < 0) {
                return found(4);
            }
            rows[row] = new int[n];
            lanes[row] = lane;
            return well(n);
        }

        int set(int row, int i, int v) {
            if (!within(row, 0, 7)) {
                return BAD;
            }
            if (rows[row] == null) {
                return found(1);
            }
            if (!within(i, 0, rows[row].length - 1)) {
                return found(2);
            }
            int over = lanes[row] == 0 ? 24 : lanes[row] == 1 ? 16 : 0;
            rows[row][i] = v << over >> over;
            return well(rows[row][i]);
        }

        int copy(int a, int i, int b, int j, int n) {
            if (!within(a, 0, 7) || !within(b, 0, 7)) {
                return BAD;
            }
            if (rows[a] == null || rows[b] == null) {
                return found(1);
            }
            if (lanes[a] != lanes[b]) {
                return found(5);
            }
            if (i < 0 || j < 0 || n < 0 || (long) i + n > rows[a].length || (long) j + n > rows[b].length) {
                return found(2);
            }
            int[] ahead = rows[a].clone();
            for (int k = 0; k < n; k++) {
                rows[b][j + k] = ahead[i + k];
            }
            return well(n);
        }

        int drop(int row) {
            if (!within(row, 0, 7)) {
                return BAD;
            }
            if (rows[row] == null) {
                return found(1);
            }
            int had = rows[row].length;
            rows[row] = null;
            return well(had);
        }

        int feed(int letter) {
            if (!within(letter, 0, 255)) {
                return BAD;
            }
            if (tape.length() == 120) {
                return FULL;
            }
            tape.append((char) letter);
            return tape.length();
        }

        // All TOKENS first, then their places in the law and in the ties.
        int table() {
            List<String> tokens = new ArrayList<>();
            List<Integer> places = new ArrayList<>();
            String text = tape.toString();
            tape.setLength(0);
            for (int at = 0; at < text.length();) {
                int end = at;
                while (end < text.length() && Character.toString(text.charAt(end)).matches("[0-9]")) {
                    end++;
                }
                end = Math.max(end, at + 1);
                tokens.add(text.substring(at, end));
                places.add(at);
                at = end;
            }
            tokens.add("");
            places.add(text.length());
            int people = 0;
            List<Tie> ties = new ArrayList<>();
            for (int k = 0; k < tokens.size(); k++) {
                int column = k < 3 ? k : 3 + (k - 3) % 5;
                String token = tokens.get(k);
                if (column == 3 && token.isEmpty()) {
                    break;
                }
                String[] forms = {"t", "[0-9]{1,2}", ";", "[aqmyn]", "[0-9]{1,2}", ",", "[0-9]{1,2}", ";"};
                int number = token.matches("[0-9]{1,2}") ? Integer.parseInt(token) : -1;
                int least = column == 1 ? 2 : column == 4 ? 1 : 0;
                int most = column == 1 ? 6 : column == 4 ? (1 << people) - 1 : 40;
                int is = !token.matches(forms[column]) ? 1 : number >= 0 && !within(number, least, most) ? 2
                        : column == 3 && ties.size() == 8 ? 3 : 0;
                if (is != 0) {
                    fault = is;
                    return -1000100 - places.get(k);
                }
                if (column == 1) {
                    people = number;
                }
                if (column == 7) {
                    int kind = 1 + "aqmyn".indexOf(tokens.get(k - 4));
                    ties.add(tieOf(kind, Integer.parseInt(tokens.get(k - 3)), Integer.parseInt(tokens.get(k - 1))));
                }
            }
            now = new Table(people, ties, 0, 0, 0);
            before.clear();
            return ties.size();
        }

        int away(int person, int is) {
            if (!isPerson(person) || !within(is, 0, 1)) {
                return BAD;
            }
            if ((now.away >> person & 1) == is) {
                return STATE;
            }
            act(new Table(now.people, now.ties, now.away ^ 1 << person, now.meals, now.spoken));
            return now.away;
        }

        int tie(int kind, int set, int worth) {
            if (now == null) {
                return STATE;
            }
            if (!within(kind, 1, 5) || !within(set, 1, now.all()) || !within(worth, 0, 40)) {
                return BAD;
            }
            if (now.ties.size() == 8) {
                return FULL;
            }
            List<Tie> more = new ArrayList<>(now.ties);
            more.add(tieOf(kind, set, worth));
            act(now.with(more));
            return more.size() - 1;
        }

        int untie() {
            if (now == null || now.ties.isEmpty()) {
                return STATE;
            }
            act(now.with(new ArrayList<>(now.ties.subList(0, now.ties.size() - 1))));
            return now.ties.size();
        }

        int meals(int n) {
            if (now == null) {
                return STATE;
            }
            if (!within(n, 1, 20)) {
                return BAD;
            }
            if (now.meals + n > 999) {
                return FULL;
            }
            for (int i = 0; i < n; i++) {
                int worth = now.worth(now.all() - now.away);
                act(new Table(now.people, now.ties, now.away, now.meals + 1, now.spoken + worth));
            }
            return now.spoken;
        }

        int undo() {
            if (before.isEmpty()) {
                return STATE;
            }
            now = before.removeLast();
            return before.size();
        }

        int tieHas(int tie, int what) {
            if (!isTie(tie) || !within(what, 0, 2)) {
                return BAD;
            }
            Tie is = now.ties.get(tie);
            return what == 0 ? is.set : what == 1 ? is.worth : is.counts(now.there());
        }

        int tableHas(int what) {
            if (now == null) {
                return STATE;
            }
            int[] has = {now.all() - now.away, now.worth(now.all() - now.away), now.worth(now.all()), now.meals,
                now.spoken};
            return within(what, 0, 4) ? has[what] : BAD;
        }

        int adds(int person, int set) {
            if (!isPerson(person) || !isSet(set) || (set & 1 << person) != 0) {
                return BAD;
            }
            return now.worth(set + (1 << person)) - now.worth(set);
        }

        int due(int person, int what) {
            if (!isPerson(person) || !within(what, 0, 1)) {
                return BAD;
            }
            long[] sum = new long[2];
            int[] worths = new int[1 << now.people];
            for (int set = 0; set < worths.length; set++) {
                worths[set] = now.worth(set);
            }
            allOrders(worths, 0, person, sum);
            return (int) lowest(sum[0], sum[1])[what];
        }

        private void allOrders(int[] worths, int came, int person, long[] sum) {
            for (int next = 0; next < now.people; next++) {
                int then = came | 1 << next;
                if (then == came) {
                    continue;
                }
                if (next != person) {
                    allOrders(worths, then, person, sum);
                    continue;
                }
                int behind = 1;
                for (int i = 2; i <= now.people - Integer.bitCount(then); i++) {
                    behind *= i;
                }
                sum[0] += (long) behind * (worths[then] - worths[came]);
                sum[1] += behind;
            }
        }

        static long[] lowest(long above, long below) {
            for (long by = below; by > 1; by--) {
                if (above % by == 0 && below % by == 0) {
                    above /= by;
                    below /= by;
                }
            }
            return new long[] {above, below};
        }

        int leaves(int row, int i) {
            if (now == null) {
                return STATE;
            }
            if (!within(row, 0, 7)) {
                return BAD;
            }
            if (rows[row] == null) {
                return found(1);
            }
            if (i < 0 || (long) i + now.people > rows[row].length) {
                return found(2);
            }
            for (int set = 1; set <= now.all(); set++) {
                long given = 0;
                for (int person : Table.peopleOf(set)) {
                    given += rows[row][i + person];
                }
                if (now.worth(set) > given) {
                    return well(set);
                }
            }
            return well(NONE);
        }

        int together(int what) {
            if (now == null) {
                return STATE;
            }
            if (!within(what, 0, 1)) {
                return BAD;
            }
            List<Integer> pairs = new ArrayList<>();
            int all = now.worth(now.all());
            for (int pair = 1; pair <= 56; pair++) {
                int a = pair / 10;
                int b = pair % 10;
                if (a < b && isPerson(b) && now.worth(now.all() - (1 << a)) == all
                        && now.worth(now.all() - (1 << b)) == all
                        && now.worth(now.all() - (1 << a) - (1 << b)) < all) {
                    pairs.add(pair);
                }
            }
            return what == 0 ? pairs.size() : pairs.isEmpty() ? NONE : pairs.get(0);
        }

        int whoAway(int v, int what) {
            if (now == null) {
                return STATE;
            }
            if (!within(v, -999, 9999) || !within(what, 0, 1)) {
                return BAD;
            }
            int many = 0;
            int least = NONE;
            for (int left = 0; left <= now.all(); left++) {
                if (now.worth(left) == v) {
                    many++;
                    least = now.all() - left;
                }
            }
            return what == 0 ? many : least;
        }

        int enough(int v, int what) {
            if (now == null) {
                return STATE;
            }
            if (!within(v, -999, 9999) || !within(what, 0, 1)) {
                return BAD;
            }
            for (int many = 0; many <= now.people; many++) {
                for (int set = 0; set <= now.all(); set++) {
                    if (Integer.bitCount(set) == many && now.worth(set) >= v) {
                        return what == 0 ? many : set;
                    }
                }
            }
            return NONE;
        }

        int best(int what) {
            if (now == null) {
                return STATE;
            }
            if (!within(what, 0, 1)) {
                return BAD;
            }
            int[] sets = new int[now.all() + 1];
            for (int set = 0; set < sets.length; set++) {
                sets[set] = (4000 - now.worth(set)) * 1000 + Integer.bitCount(set) * 100 + set;
            }
            Arrays.sort(sets);
            return what == 0 ? sets[0] % 100 : 4000 - sets[0] / 1000;
        }

        int bring(int what) {
            if (now == null) {
                return STATE;
            }
            if (!within(what, 0, 1)) {
                return BAD;
            }
            int there = now.all() - now.away;
            int[] answer = {NONE, NONE};
            for (int person = now.people - 1; person >= 0; person--) {
                if ((now.away & 1 << person) != 0) {
                    int more = now.worth(there + (1 << person)) - now.worth(there);
                    if (answer[0] == NONE || more >= answer[1]) {
                        answer = new int[] {person, more};
                    }
                }
            }
            return answer[what];
        }

        int which(int tie, int row, int i, int n) {
            if (!isTie(tie) || !within(row, 0, 7) || !within(n, 0, 10)) {
                return BAD;
            }
            if (rows[row] == null) {
                return found(1);
            }
            if (i < 0 || (long) i + 2 * n > rows[row].length) {
                return found(2);
            }
            int kinds = 0;
            for (int kind = 1; kind <= 5; kind++) {
                List<Tie> other = new ArrayList<>(now.ties);
                other.set(tie, tieOf(kind, other.get(tie).set, other.get(tie).worth));
                boolean so = true;
                for (int k = 0; k < n; k++) {
                    int there = rows[row][i + 2 * k];
                    if (!isSet(there)) {
                        return BAD;
                    }
                    so &= now.with(other).worth(there) == rows[row][i + 2 * k + 1];
                }
                kinds += so ? 1 << kind : 0;
            }
            return well(kinds);
        }

        int colds(int v, int c, int what) {
            if (now == null) {
                return STATE;
            }
            if (!within(v, -999, 9999) || !within(c, 0, 10) || !within(what, 0, 1)) {
                return BAD;
            }
            List<Integer> there = now.there();
            long below = 1;
            for (int i = 0; i < there.size(); i++) {
                below *= 10;
            }
            return (int) lowest(ways(there, 0, 0, v, c), below)[what];
        }

        private long ways(List<Integer> there, int i, int left, int v, int c) {
            if (i == there.size()) {
                return now.worth(left) >= v ? 1 : 0;
            }
            return c * ways(there, i + 1, left, v, c) + (10 - c) * ways(there, i + 1, left | 1 << there.get(i), v, c);
        }

        int image(int k) {
            if (!within(k, 0, 1)) {
                return BAD;
            }
            if (now == null) {
                return STATE;
            }
            images[k] = now;
            return 1;
        }

        int restore(int k) {
            if (!within(k, 0, 1)) {
                return BAD;
            }
            if (images[k] == null) {
                return STATE;
            }
            now = images[k];
            before.clear();
            return 1;
        }

        int as(int tie, int kind) {
            if (!isTie(tie) || !within(kind, 0, 5)) {
                return BAD;
            }
            return isOf(now.ties.get(tie), kind) ? well(tie) : found(3);
        }

        int ask(int tie, int what) {
            if (!isTie(tie) || !within(what, 0, 1)) {
                return BAD;
            }
            trace.clear();
            return what == 0 ? now.ties.get(tie).size(this, tie) : now.ties.get(tie).mark(this, tie);
        }

        int count(int what) {
            int stand = 0;
            for (int[] row : rows) {
                stand += row == null ? 0 : 1;
            }
            int[] counts = {stand, now == null ? 0 : now.people, now == null ? 0 : now.ties.size(),
                now == null ? 0 : now.meals, now == null ? 0 : Integer.bitCount(now.away), before.size(),
                tape.length()};
            return within(what, 0, 6) ? counts[what] : BAD;
        }
    }
}
