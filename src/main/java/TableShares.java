public final class TableShares {
    public static final int NONE = -1000000, BAD = -1000001, STATE = -1000002, FULL = -1000003;

    private static final int FINDINGS = -1000010;
    private static final int NULL = 1, PLACE = 2, KIND = 3, SIZE = 4, STORE = 5;
    private static final int FAULTS = -1000100;

    private static final int ROWS = 8, LANES = 3, MOST_ITEMS = 40;
    private static final int MOST_BYTES = 120;
    private static final int LEAST_PEOPLE = 2, MOST_PEOPLE = 6;
    private static final int MOST_TIES = 8, MOST_WORTH = 40;
    private static final int MOST_MEALS = 999, MEALS_AT_ONCE = 20, MEALS_TOLD = 10;
    private static final int LEAST_LOOKED_FOR = -999, MOST_LOOKED_FOR = 9999;
    private static final int IMAGES = 2;

    private static final int TIE = 0, ALL = 1, QUARREL = 2, MORE = 3, ANY = 4, NOBODY = 5;

    private final Row[] rows;
    private final Reader reader;
    private final Table now;
    private final Table beingRead;
    private final Table[] images;
    private final Acts acts;
    private final Asks asks;
    private int latestFault;
    private int finding;

    public TableShares() {
        rows = new Row[ROWS];
        for (int i = 0; i < rows.length; i++) {
            rows[i] = new Row();
        }
        reader = new Reader();
        now = new Table();
        beingRead = new Table();
        images = new Table[IMAGES];
        for (int i = 0; i < images.length; i++) {
            images[i] = new Table();
        }
        acts = new Acts();
        asks = new Asks(now);
        latestFault = 0;
        finding = 0;
    }

    // ---- rows

    public int row(int row, int lane, int n) {
        Row made = rowAt(row);
        if (made == null || lane < 0 || lane >= LANES || n > MOST_ITEMS) {
            return BAD;
        }
        if (n < 0) {
            return found(SIZE);
        }
        made.begin(lane, n);
        return well(n);
    }

    public int set(int row, int i, int v) {
        Row to = rowAt(row);
        if (to == null) {
            return BAD;
        }
        if (!to.stands) {
            return found(NULL);
        }
        if (!to.holds(i, 1)) {
            return found(PLACE);
        }
        to.write(i, v);
        return well(to.item(i));
    }

    public int copy(int a, int i, int b, int j, int n) {
        Row from = rowAt(a);
        Row to = rowAt(b);
        if (from == null || to == null) {
            return BAD;
        }
        if (!from.stands || !to.stands) {
            return found(NULL);
        }
        if (from.lane != to.lane) {
            return found(STORE);
        }
        if (!from.holds(i, n) || !to.holds(j, n)) {
            return found(PLACE);
        }
        to.takeFrom(from, i, j, n);
        return well(n);
    }

    public int drop(int row) {
        Row dropped = rowAt(row);
        if (dropped == null) {
            return BAD;
        }
        if (!dropped.stands) {
            return found(NULL);
        }
        dropped.stands = false;
        return well(dropped.length);
    }

    // ---- tables, acts

    public int feed(int letter) {
        if (letter < 0 || letter > 255) {
            return BAD;
        }
        if (reader.length >= MOST_BYTES) {
            return FULL;
        }
        reader.append(letter);
        return reader.length;
    }

    public int table() {
        int fault = reader.readInto(beingRead);
        reader.length = 0;
        if (fault != 0) {
            latestFault = fault;
            return FAULTS - reader.place;
        }
        now.become(beingRead);
        acts.forgetAll();
        return now.ties;
    }

    public int fault() {
        return latestFault;
    }

    public int away(int person, int is) {
        if (!now.isPerson(person) || !isZeroOrOne(is)) {
            return BAD;
        }
        int before = now.away;
        int after = is == 1 ? before | 1 << person : before & ~(1 << person);
        if (after == before) {
            return STATE;
        }
        acts.keep(Acts.WENT_OR_CAME, before, 0, 0);
        now.away = after;
        return after;
    }

    public int tie(int kind, int set, int worth) {
        if (!now.stands()) {
            return STATE;
        }
        if (kind < ALL || kind > NOBODY || set == 0 || !now.isSet(set) || worth < 0 || worth > MOST_WORTH) {
            return BAD;
        }
        if (now.ties >= MOST_TIES) {
            return FULL;
        }
        acts.keep(Acts.TOLD, 0, 0, 0);
        now.addTie(kind, set, worth);
        return now.ties - 1;
    }

    public int untie() {
        int last = now.ties - 1;
        if (last < 0) {
            return STATE;
        }
        acts.keep(Acts.UNTIED, now.kindOf(last), now.setOf(last), now.worthOf(last));
        now.dropTie();
        return now.ties;
    }

    public int meals(int n) {
        if (!now.stands()) {
            return STATE;
        }
        if (n < 1 || n > MEALS_AT_ONCE) {
            return BAD;
        }
        if (now.meals + n > MOST_MEALS) {
            return FULL;
        }
        int each = now.worthOfSet(now.there());
        for (int meal = 0; meal < n; meal++) {
            acts.keep(Acts.MEAL, each, 0, 0);
        }
        now.meals += n;
        now.spoken += n * each;
        return now.spoken;
    }

    public int undo() {
        if (acts.kept <= 0) {
            return STATE;
        }
        int first = acts.latest(1);
        switch (acts.latest(0)) {
            case Acts.WENT_OR_CAME:
                now.away = first;
                break;
            case Acts.TOLD:
                now.dropTie();
                break;
            case Acts.UNTIED:
                now.addTie(first, acts.latest(2), acts.latest(3));
                break;
            default:
                now.meals--;
                now.spoken -= first;
                break;
        }
        acts.forgetLatest();
        return acts.kept;
    }

    public int tieHas(int tie, int what) {
        if (!now.isTie(tie)) {
            return BAD;
        }
        switch (what) {
            case 0:
                return now.setOf(tie);
            case 1:
                return now.worthOf(tie);
            case 2:
                return now.counts(tie, now.kindOf(tie), now.there());
            default:
                return BAD;
        }
    }

    public int tableHas(int what) {
        if (!now.stands()) {
            return STATE;
        }
        switch (what) {
            case 0:
                return now.there();
            case 1:
                return now.worthOfSet(now.there());
            case 2:
                return now.worthOfSet(now.everybody());
            case 3:
                return now.meals;
            case 4:
                return now.spoken;
            default:
                return BAD;
        }
    }

    // ---- foretold

    public int worth(int set) {
        if (!now.stands()) {
            return STATE;
        }
        return now.isSet(set) ? now.worthOfSet(set) : BAD;
    }

    public int adds(int person, int set) {
        if (!now.isPerson(person) || !now.isSet(set) || has(set, person)) {
            return BAD;
        }
        return now.addedBy(person, set);
    }

    public int due(int person, int what) {
        if (!now.isPerson(person) || !isZeroOrOne(what)) {
            return BAD;
        }
        int others = now.people - 1;
        int above = 0;
        for (int ahead = 0; ahead <= now.everybody(); ahead++) {
            if (!has(ahead, person)) {
                int came = Integer.bitCount(ahead);
                above += factorial(came) * factorial(others - came) * now.addedBy(person, ahead);
            }
        }
        return fraction(above, factorial(now.people), what);
    }

    public int missed(int person) {
        return now.isPerson(person) ? now.lostWithout(1 << person) : BAD;
    }

    public int leaves(int row, int i) {
        if (!now.stands()) {
            return STATE;
        }
        Row given = rowAt(row);
        if (given == null) {
            return BAD;
        }
        if (!given.stands) {
            return found(NULL);
        }
        if (!given.holds(i, now.people)) {
            return found(PLACE);
        }
        for (int set = 1; set <= now.everybody(); set++) {
            if (now.worthOfSet(set) > given.sumOf(set, i, now.people)) {
                return well(set);
            }
        }
        return well(NONE);
    }

    public int together(int what) {
        if (!now.stands()) {
            return STATE;
        }
        if (!isZeroOrOne(what)) {
            return BAD;
        }
        int pairs = 0;
        int first = NONE;
        for (int a = 0; a < now.people; a++) {
            for (int b = a + 1; b < now.people; b++) {
                if (now.areMissedOnlyTogether(a, b)) {
                    first = pairs == 0 ? 10 * a + b : first;
                    pairs++;
                }
            }
        }
        return what == 0 ? pairs : first;
    }

    public int whoAway(int v, int what) {
        if (!now.stands()) {
            return STATE;
        }
        if (!isLookedFor(v) || !isZeroOrOne(what)) {
            return BAD;
        }
        int sets = 0;
        int least = NONE;
        for (int gone = 0; gone <= now.everybody(); gone++) {
            if (now.worthOfSet(now.everybody() & ~gone) == v) {
                least = sets == 0 ? gone : least;
                sets++;
            }
        }
        return what == 0 ? sets : least;
    }

    public int enough(int v, int what) {
        if (!now.stands()) {
            return STATE;
        }
        if (!isLookedFor(v) || !isZeroOrOne(what)) {
            return BAD;
        }
        int fewest = NONE;
        int least = NONE;
        for (int set = 0; set <= now.everybody(); set++) {
            int many = Integer.bitCount(set);
            if (now.worthOfSet(set) >= v && (least == NONE || many < fewest)) {
                fewest = many;
                least = set;
            }
        }
        return what == 0 ? fewest : least;
    }

    public int best(int what) {
        if (!now.stands()) {
            return STATE;
        }
        if (!isZeroOrOne(what)) {
            return BAD;
        }
        int best = 0;
        int most = now.worthOfSet(0);
        for (int set = 1; set <= now.everybody(); set++) {
            int worth = now.worthOfSet(set);
            if (worth > most || worth == most && Integer.bitCount(set) < Integer.bitCount(best)) {
                best = set;
                most = worth;
            }
        }
        return what == 0 ? best : most;
    }

    public int bring(int what) {
        if (!now.stands()) {
            return STATE;
        }
        if (!isZeroOrOne(what)) {
            return BAD;
        }
        int who = NONE;
        int most = NONE;
        for (int person = 0; person < now.people; person++) {
            if (has(now.away, person)) {
                int more = now.addedBy(person, now.there());
                if (who == NONE || more > most) {
                    who = person;
                    most = more;
                }
            }
        }
        return what == 0 ? who : most;
    }

    public int which(int tie, int row, int i, int n) {
        Row seen = rowAt(row);
        if (!now.isTie(tie) || seen == null || n < 0 || n > MEALS_TOLD) {
            return BAD;
        }
        if (!seen.stands) {
            return found(NULL);
        }
        if (!seen.holds(i, 2 * n)) {
            return found(PLACE);
        }
        for (int meal = 0; meal < n; meal++) {
            if (!now.isSet(seen.item(i + 2 * meal))) {
                return BAD;
            }
        }
        int kinds = 0;
        for (int kind = ALL; kind <= NOBODY; kind++) {
            if (fits(tie, kind, seen, i, n)) {
                kinds |= 1 << kind;
            }
        }
        return well(kinds);
    }

    public int colds(int v, int c, int what) {
        if (!now.stands()) {
            return STATE;
        }
        if (!isLookedFor(v) || c < 0 || c > 10 || !isZeroOrOne(what)) {
            return BAD;
        }
        int there = now.there();
        int could = Integer.bitCount(there);
        int above = 0;
        for (int left = 0; left <= now.everybody(); left++) {
            if ((left & ~there) == 0 && now.worthOfSet(left) >= v) {
                int stay = Integer.bitCount(left);
                above += power(10 - c, stay) * power(c, could - stay);
            }
        }
        return fraction(above, power(10, could), what);
    }

    public int image(int k) {
        Table kept = imageAt(k);
        if (kept == null) {
            return BAD;
        }
        if (!now.stands()) {
            return STATE;
        }
        kept.become(now);
        return 1;
    }

    public int restore(int k) {
        Table kept = imageAt(k);
        if (kept == null) {
            return BAD;
        }
        if (!kept.stands()) {
            return STATE;
        }
        now.become(kept);
        acts.forgetAll();
        return 1;
    }

    // ---- asked

    public int kind(int tie) {
        return now.isTie(tie) ? now.kindOf(tie) : BAD;
    }

    public int as(int tie, int kind) {
        if (!now.isTie(tie) || kind < TIE || kind > NOBODY) {
            return BAD;
        }
        return isA(now.kindOf(tie), kind) ? well(tie) : found(KIND);
    }

    public int ask(int tie, int what) {
        if (!now.isTie(tie) || !isZeroOrOne(what)) {
            return BAD;
        }
        asks.begin();
        return what == 0 ? asks.sizeOf(tie) : asks.markOf(tie);
    }

    public int trace(int i) {
        return i >= 0 && i < asks.left ? at(asks.bodies, i) : NONE;
    }

    public int count(int what) {
        switch (what) {
            case 0:
                return rowsThatStand();
            case 1:
                return now.people;
            case 2:
                return now.ties;
            case 3:
                return now.meals;
            case 4:
                return Integer.bitCount(now.away);
            case 5:
                return acts.kept;
            case 6:
                return reader.length;
            default:
                return BAD;
        }
    }

    public int status() {
        return finding;
    }

    // ---- what the calls share

    private int found(int number) {
        finding = number;
        return FINDINGS - number;
    }

    private int well(int answer) {
        finding = 0;
        return answer;
    }

    private Row rowAt(int i) {
        return i >= 0 && i < rows.length ? rows[i] : null;
    }

    private Table imageAt(int k) {
        return k >= 0 && k < images.length ? images[k] : null;
    }

    private int rowsThatStand() {
        int stand = 0;
        for (int i = 0; i < ROWS; i++) {
            Row row = rowAt(i);
            if (row != null && row.stands) {
                stand++;
            }
        }
        return stand;
    }

    private boolean fits(int tie, int kind, Row seen, int i, int n) {
        for (int meal = 0; meal < n; meal++) {
            int there = seen.item(i + 2 * meal);
            if (now.worthIfKind(there, tie, kind) != seen.item(i + 2 * meal + 1)) {
                return false;
            }
        }
        return true;
    }

    private static boolean isZeroOrOne(int what) {
        return what == 0 || what == 1;
    }

    private static boolean isLookedFor(int v) {
        return v >= LEAST_LOOKED_FOR && v <= MOST_LOOKED_FOR;
    }

    private static boolean has(int set, int person) {
        return (set >> person & 1) == 1;
    }

    private static boolean isA(int is, int kind) {
        return kind == is || kind == TIE || kind == aboveOf(is);
    }

    private static int aboveOf(int kind) {
        switch (kind) {
            case QUARREL:
            case MORE:
                return ALL;
            case NOBODY:
                return ANY;
            default:
                return TIE;
        }
    }

    private static int factorial(int n) {
        int product = 1;
        for (int i = 2; i <= n; i++) {
            product *= i;
        }
        return product;
    }

    private static int power(int base, int times) {
        int product = 1;
        for (int i = 0; i < times; i++) {
            product *= base;
        }
        return product;
    }

    private static int fraction(int above, int below, int what) {
        int shared = commonDivisor(Math.abs(above), below);
        if (shared == 0) {
            return what;
        }
        return what == 0 ? above / shared : below / shared;
    }

    private static int commonDivisor(int a, int b) {
        int greater = a;
        int less = b;
        // Euclid's rests at least halve in two steps, so 100 are far more than ints need.
        for (int step = 0; step < 100 && less != 0; step++) {
            int rest = greater % less;
            greater = less;
            less = rest;
        }
        return greater;
    }

    private static int at(int[] numbers, int i) {
        return i >= 0 && i < numbers.length ? numbers[i] : 0;
    }

    private static void put(int[] numbers, int i, int v) {
        if (i >= 0 && i < numbers.length) {
            numbers[i] = v;
        }
    }

    private static final class Row {
        private final int[] items;
        private boolean stands;
        private int lane;
        private int length;

        private Row() {
            items = new int[MOST_ITEMS];
        }

        private void begin(int newLane, int newLength) {
            stands = true;
            lane = newLane;
            length = newLength;
            for (int i = 0; i < items.length; i++) {
                items[i] = 0;
            }
        }

        // The bound is taken off the length, for i and n added might wrap around.
        private boolean holds(int i, int n) {
            return i >= 0 && n >= 0 && i <= length - n;
        }

        private int item(int i) {
            return at(items, i);
        }

        private void write(int i, int v) {
            switch (lane) {
                case 0:
                    put(items, i, (byte) v);
                    break;
                case 1:
                    put(items, i, (short) v);
                    break;
                default:
                    put(items, i, v);
                    break;
            }
        }

        private void takeFrom(Row from, int i, int j, int n) {
            if (from.holds(i, n) && holds(j, n)) {
                System.arraycopy(from.items, i, items, j, n);
            }
        }

        // A long, for ints as shares may be more together than an int holds.
        private long sumOf(int set, int i, int people) {
            long sum = 0;
            for (int person = 0; person < people; person++) {
                if (has(set, person)) {
                    sum += item(i + person);
                }
            }
            return sum;
        }
    }

    // No PEOPLE: there is no TABLE (or no IMAGE was kept).
    private static final class Table {
        private final int[] kinds;
        private final int[] sets;
        private final int[] worths;
        private int people;
        private int ties;
        private int away;
        private int meals;
        private int spoken;

        private Table() {
            kinds = new int[MOST_TIES];
            sets = new int[MOST_TIES];
            worths = new int[MOST_TIES];
        }

        private void begin(int newPeople) {
            people = newPeople;
            ties = 0;
            away = 0;
            meals = 0;
            spoken = 0;
        }

        private void become(Table other) {
            for (int tie = 0; tie < MOST_TIES; tie++) {
                put(kinds, tie, at(other.kinds, tie));
                put(sets, tie, at(other.sets, tie));
                put(worths, tie, at(other.worths, tie));
            }
            people = other.people;
            ties = other.ties;
            away = other.away;
            meals = other.meals;
            spoken = other.spoken;
        }

        private boolean stands() {
            return people > 0;
        }

        private boolean isPerson(int person) {
            return person >= 0 && person < people;
        }

        private boolean isSet(int set) {
            return set >= 0 && set <= everybody();
        }

        private boolean isTie(int tie) {
            return tie >= 0 && tie < ties;
        }

        private int everybody() {
            return (1 << people) - 1;
        }

        private int there() {
            return everybody() & ~away;
        }

        private int kindOf(int tie) {
            return at(kinds, tie);
        }

        private int setOf(int tie) {
            return at(sets, tie);
        }

        private int worthOf(int tie) {
            return at(worths, tie);
        }

        private void addTie(int kind, int set, int worth) {
            if (ties < MOST_TIES) {
                put(kinds, ties, kind);
                put(sets, ties, set);
                put(worths, ties, worth);
                ties++;
            }
        }

        private void dropTie() {
            if (ties > 0) {
                ties--;
            }
        }

        private int counts(int tie, int kind, int there) {
            int set = setOf(tie);
            int worth = worthOf(tie);
            int here = set & there;
            switch (kind) {
                case ALL:
                    return here == set ? worth : 0;
                case QUARREL:
                    return here == set ? -worth : 0;
                case MORE:
                    return worth * Math.max(0, Integer.bitCount(here) - 1);
                case ANY:
                    return here != 0 ? worth : 0;
                case NOBODY:
                    return here == 0 ? worth : 0;
                default:
                    return 0;
            }
        }

        private int worthOfSet(int there) {
            int sum = 0;
            for (int tie = 0; tie < ties; tie++) {
                sum += counts(tie, kindOf(tie), there);
            }
            return sum;
        }

        private int worthIfKind(int there, int tie, int kind) {
            return worthOfSet(there) - counts(tie, kindOf(tie), there) + counts(tie, kind, there);
        }

        private int addedBy(int person, int set) {
            return worthOfSet(set | 1 << person) - worthOfSet(set);
        }

        private int lostWithout(int set) {
            return worthOfSet(everybody()) - worthOfSet(everybody() & ~set);
        }

        private boolean areMissedOnlyTogether(int a, int b) {
            return lostWithout(1 << a) == 0 && lostWithout(1 << b) == 0 && lostWithout(1 << a | 1 << b) > 0;
        }
    }

    private static final class Acts {
        private static final int WENT_OR_CAME = 0, TOLD = 1, UNTIED = 2, MEAL = 3;
        private static final int MOST = 24, PARTS = 4;

        private final int[] parts;
        private int kept;

        private Acts() {
            parts = new int[MOST * PARTS];
        }

        private void keep(int sort, int first, int second, int third) {
            if (kept >= MOST) {
                forgetOldest();
            }
            int from = kept * PARTS;
            put(parts, from, sort);
            put(parts, from + 1, first);
            put(parts, from + 2, second);
            put(parts, from + 3, third);
            kept++;
        }

        private int latest(int part) {
            return at(parts, (kept - 1) * PARTS + part);
        }

        private void forgetOldest() {
            for (int i = PARTS; i < parts.length; i++) {
                put(parts, i - PARTS, at(parts, i));
            }
            kept--;
        }

        private void forgetLatest() {
            kept--;
        }

        private void forgetAll() {
            kept = 0;
        }
    }

    private static final class Reader {
        private static final int LETTER = 0, NUMBER = 1, SIGN = 2, END = 3, NO_TOKEN = 4;
        private static final int MISPLACED = 1, NOT_AS_TOLD = 2, NO_ROOM = 3;

        private final int[] tape;
        private int length;
        private int place;
        private int next;
        private int sort;
        private int value;

        private Reader() {
            tape = new int[MOST_BYTES];
        }

        private void append(int letter) {
            if (length < MOST_BYTES) {
                put(tape, length, letter);
                length++;
            }
        }

        private int readInto(Table read) {
            next = 0;
            int fault = lawFault(read);
            // One turn more than there is room for, so that a tie too many is seen.
            for (int turn = 0; turn <= MOST_TIES && fault == 0; turn++) {
                step();
                if (sort == END) {
                    return 0;
                }
                fault = tieFault(read);
            }
            return fault;
        }

        private int lawFault(Table read) {
            step();
            if (sort != LETTER || value != 't') {
                return MISPLACED;
            }
            int fault = numberFault(LEAST_PEOPLE, MOST_PEOPLE);
            if (fault != 0) {
                return fault;
            }
            read.begin(value);
            return signFault(';');
        }

        private int tieFault(Table read) {
            int kind = sort == LETTER ? kindToldBy(value) : TIE;
            if (kind == TIE) {
                return MISPLACED;
            }
            if (read.ties >= MOST_TIES) {
                return NO_ROOM;
            }
            int fault = numberFault(1, read.everybody());
            int set = value;
            if (fault == 0) {
                fault = signFault(',');
            }
            if (fault == 0) {
                fault = numberFault(0, MOST_WORTH);
            }
            int worth = value;
            if (fault == 0) {
                fault = signFault(';');
            }
            if (fault == 0) {
                read.addTie(kind, set, worth);
            }
            return fault;
        }

        private static int kindToldBy(int letter) {
            switch (letter) {
                case 'a':
                    return ALL;
                case 'q':
                    return QUARREL;
                case 'm':
                    return MORE;
                case 'y':
                    return ANY;
                case 'n':
                    return NOBODY;
                default:
                    return TIE;
            }
        }

        private int numberFault(int least, int most) {
            step();
            if (sort != NUMBER) {
                return MISPLACED;
            }
            return value < least || value > most ? NOT_AS_TOLD : 0;
        }

        private int signFault(int sign) {
            step();
            return sort == SIGN && value == sign ? 0 : MISPLACED;
        }

        private void step() {
            place = next;
            value = 0;
            if (place >= length) {
                sort = END;
            } else if (isFigure(at(tape, place))) {
                readFigures();
            } else {
                value = at(tape, place);
                sort = sortOf(value);
                next = place + 1;
            }
        }

        private void readFigures() {
            int figures = 0;
            for (int i = place; i < length && isFigure(at(tape, i)); i++) {
                figures++;
                // A longer run is no NUMBER, so what it would be is not needed.
                if (figures <= 2) {
                    value = 10 * value + at(tape, i) - '0';
                }
            }
            sort = figures <= 2 ? NUMBER : NO_TOKEN;
            next = place + figures;
        }

        private static boolean isFigure(int letter) {
            return letter >= '0' && letter <= '9';
        }

        private static int sortOf(int letter) {
            if (letter >= 'a' && letter <= 'z') {
                return LETTER;
            }
            return letter == ',' || letter == ';' ? SIGN : NO_TOKEN;
        }
    }

    // A BODY of ALL asks only for the MARK of an ALL, one of ANY only for the SIZE of an ANY:
    // kept apart like this, no ask within an ask comes back to itself.
    private static final class Asks {
        private static final int MOST = 16;

        private final Table table;
        private final int[] bodies;
        private int left;

        private Asks(Table asked) {
            table = asked;
            bodies = new int[MOST];
        }

        private void begin() {
            left = 0;
        }

        private void leave(int body) {
            if (left < MOST) {
                put(bodies, left, body);
                left++;
            }
        }

        private int sizeOf(int tie) {
            return isA(table.kindOf(tie), ALL) ? sizeOfAll(tie) : sizeOfAny(tie);
        }

        private int markOf(int tie) {
            return isA(table.kindOf(tie), ALL) ? markOfAll(tie) : markOfAny(tie);
        }

        private int sizeOfAll(int tie) {
            boolean quarrel = table.kindOf(tie) == QUARREL;
            if (quarrel) {
                leave(12);
            }
            leave(11);
            int given = sizeLent(tie) + markOfAll(tie);
            return quarrel ? -given : given;
        }

        private int sizeOfAny(int tie) {
            boolean nobody = table.kindOf(tie) == NOBODY;
            if (nobody) {
                leave(14);
            }
            leave(13);
            int given = sizeLent(tie) - 100;
            return nobody ? 2 * given : given;
        }

        private int sizeLent(int tie) {
            leave(10);
            return table.worthOf(tie);
        }

        private int markOfAll(int tie) {
            int kind = table.kindOf(tie);
            if (kind == MORE) {
                leave(22);
            } else if (kind == QUARREL) {
                leave(24);
            }
            leave(21);
            int given = markLent(tie) + Integer.bitCount(table.setOf(tie) & table.there());
            if (kind == MORE) {
                return given - 1000;
            }
            return kind == QUARREL ? 2 * given : given;
        }

        private int markOfAny(int tie) {
            leave(23);
            return markLent(tie) - sizeOfAny(tie);
        }

        private int markLent(int tie) {
            leave(20);
            return tie;
        }
    }
}
