/** A rate said by houses, as ../shared/DOC.md tells it in its promises 1 to 40. */
public final class SaidRate {
    public static final int BAD = -1, NOT = -2, FULL = -3, NONE = -4, NULL = -11, CAST = -12, INDEX = -13, SIZE = -14;

    private static final int HOUSES = 8, MORNINGS = 30, DESKS = 12;
    private static final int SILENT = -1;
    /** The greatest number that may be SAID, LENT, a STRIKE, a price or a MINUTE. */
    private static final int TOP = 999;
    private static final int CUT = 0, LEAST = 1, SPREAD = 2;
    /** Some calls answer numbers that may be below 0: their refusals lie lower by one of these. */
    private static final int LOWER = 10, LOW = 10000;
    private static final long LOWEST = 1099511627776L;

    private final Rates rates = new Rates();
    private final Panel panel = rates.panel;
    private final RuleBook book = rates.book;
    private final Desks desks = new Desks();
    private final Loans loans = new Loans();
    private final Runs runs = new Runs();
    private final Talk talk = new Talk();
    private final Favours favours = new Favours();
    private final Sheets sheets = new Sheets();
    private final Fraction found = new Fraction();
    private final Fraction other = new Fraction();
    private final int[] righted = new int[HOUSES];

    public SaidRate() {
    }

    // ---- 1 saying

    public int say(int house, int morning, int v) {
        if (!isHouse(house) || !isMorning(morning) || !isSayable(v)) {
            return BAD - LOWER;
        }
        int was = panel.heard(house, morning);
        panel.hear(house, morning, v);
        return was;
    }

    public int said(int house, int morning) {
        if (!isHouse(house) || !isMorning(morning)) {
            return BAD - LOWER;
        }
        return panel.heard(house, morning);
    }

    public int all(int morning, int sheet, int lane, int from) {
        if (!isMorning(morning)) {
            return BAD;
        }
        int refusal = sheets.refusal(sheet, lane, from, HOUSES);
        if (refusal != 0) {
            return refusal;
        }
        for (int house = 0; house < HOUSES; house++) {
            if (!isSayable(sheets.read(sheet, from + house))) {
                return NOT;
            }
        }
        for (int house = 0; house < HOUSES; house++) {
            panel.hear(house, morning, sheets.read(sheet, from + house));
        }
        return HOUSES;
    }

    public int type(long w, int n) {
        if (!isIn(n, 1, 8) || !RuleBook.isTypeable(w, n)) {
            return BAD;
        }
        return book.addToTape(w, n);
    }

    public int rules(int from) {
        if (!isMorning(from) || !book.mayStart(from)) {
            return BAD;
        }
        return book.addEdition(from);
    }

    public int rule(int morning, int what) {
        if (!isMorning(morning) || !isIn(what, CUT, SPREAD)) {
            return BAD;
        }
        return book.inForce(morning, what);
    }

    public long rate(int morning, int what) {
        if (!isMorning(morning) || !isBit(what)) {
            return BAD - LOWEST;
        }
        return rates.find(morning, found) ? found.part(what) : NONE - LOWEST;
    }

    public int thrown(int house, int morning) {
        if (!isHouse(house) || !isMorning(morning)) {
            return BAD - LOWER;
        }
        if (panel.heard(house, morning) == SILENT) {
            return NOT - LOWER;
        }
        if (!rates.find(morning, found)) {
            return NONE - LOWER;
        }
        return panel.sideOf(house, book.inForce(morning, CUT));
    }

    public long reach(int house, int morning, int end, int what) {
        if (!isHouse(house) || !isMorning(morning) || !isBit(end) || !isBit(what)) {
            return BAD - LOWEST;
        }
        return rates.findReach(house, morning, end, found) ? found.part(what) : NONE - LOWEST;
    }

    public long move(int group, int morning, int way, int what) {
        if (!isIn(group, 1, 255) || !isMorning(morning) || !isBit(way) || !isBit(what)) {
            return BAD - LOWEST;
        }
        boolean is = rates.findMove(group, morning, way, book.inForce(morning, CUT), found);
        return is ? found.part(what) : NONE - LOWEST;
    }

    public int many(int morning, int way, int v) {
        if (!isMorning(morning) || !isBit(way) || !isIn(v, 1, TOP)) {
            return BAD;
        }
        return rates.fewest(morning, way, v);
    }

    // ---- 2 desks

    public int desk(int house) {
        if (!isHouse(house)) {
            return BAD;
        }
        return desks.open(house);
    }

    public int contract(int a, int b, int morning, int size, int strike) {
        if (!desks.areTwo(a, b) || !isMorning(morning) || !isIn(size, 1, 99) || !isIn(strike, 0, TOP)) {
            return BAD;
        }
        return desks.sign(a, b, morning, size, strike);
    }

    public int gain(int desk, int morning, int which) {
        if (!desks.has(desk) || !isMorning(morning) || !isBit(which)) {
            return BAD - LOW;
        }
        return which == 0 ? desks.deskGain(desk, morning) : desks.houseGain(desks.houseOf(desk), morning);
    }

    public long paid(int desk, int morning, int what) {
        if (!desks.has(desk) || !isMorning(morning) || !isBit(what)) {
            return BAD - LOWEST;
        }
        if (!rates.find(morning, found)) {
            found.put(0, 1);
        } else {
            found.scale(desks.deskGain(desk, morning), desks.strikeSum(desk, morning));
        }
        return found.part(what);
    }

    public int unlike(int morning) {
        if (!isMorning(morning)) {
            return BAD;
        }
        return desks.housesGaining(morning, 1) & desks.housesGaining(morning, -1);
    }

    public int count(int what) {
        switch (what) {
            case 0:
                return desks.deskCount();
            case 1:
                return desks.contractCount();
            case 2:
                return loans.rowCount();
            case 3:
                return runs.runCount();
            case 4:
                return talk.wordCount();
            case 5:
                return book.editionCount();
            default:
                return BAD;
        }
    }

    // ---- 3 truth

    public int lent(int house, int morning, int at) {
        if (!isHouse(house) || !isMorning(morning) || !isIn(at, 0, TOP)) {
            return BAD;
        }
        return loans.lend(house, morning, at);
    }

    public int truth(int house, int morning, int end) {
        if (!isHouse(house) || !isMorning(morning) || !isBit(end)) {
            return BAD;
        }
        if (!findTrue(house, morning)) {
            return NONE;
        }
        return end == 0 ? loans.lowEnd() : loans.highEnd();
    }

    public int out(int house, int morning) {
        if (!isHouse(house) || !isMorning(morning)) {
            return BAD - LOWER;
        }
        return outSign(house, morning);
    }

    public long right(int morning, int what) {
        if (!isMorning(morning) || !isBit(what)) {
            return BAD - LOWEST;
        }
        return findRight(morning, found) ? found.part(what) : NONE - LOWEST;
    }

    public long lost(int desk, int morning, int what) {
        if (!desks.has(desk) || !isMorning(morning) || !isBit(what)) {
            return BAD - LOWEST;
        }
        if (rates.find(morning, other) && findRight(morning, found)) {
            // STRIKES are the same by both RATES, so only the GAIN times what lies between them is left
            found.putDifference(found, other);
            found.scale(desks.deskGain(desk, morning), 0);
        } else {
            found.put(0, 1);
        }
        return found.part(what);
    }

    public int lean(int house, int what) {
        if (!isHouse(house) || !isIn(what, 0, 3)) {
            return BAD;
        }
        int mornings = 0;
        int with = 0;
        int fear = 0;
        for (int morning = 0; morning < MORNINGS; morning++) {
            int side = outSign(house, morning);
            int gains = desks.houseGain(house, morning);
            mornings += side != 0 && gains != 0 ? 1 : 0;
            with += side * gains > 0 ? 1 : 0;
            fear += side < 0 && gains >= 0 ? 1 : 0;
        }
        switch (what) {
            case 0:
                return mornings;
            case 1:
                return with;
            case 2:
                return chance(mornings, with);
            default:
                return fear;
        }
    }

    public int run(int morning, int price) {
        if (!isMorning(morning) || !isIn(price, 0, TOP)) {
            return BAD;
        }
        return runs.give(morning, price);
    }

    public int untrue(int run) {
        if (!runs.has(run)) {
            return BAD;
        }
        if (!loans.findAll(runs.morningOf(run))) {
            return 0;
        }
        return isIn(runs.priceOf(run), loans.lowEnd(), loans.highEnd()) ? 0 : 1;
    }

    public int backed(int run) {
        if (!runs.has(run)) {
            return BAD;
        }
        int morning = runs.morningOf(run);
        int bits = 0;
        for (int house = 0; house < HOUSES; house++) {
            if (panel.heard(house, morning) == runs.priceOf(run) && outSign(house, morning) != 0) {
                bits |= 1 << house;
            }
        }
        return bits;
    }

    // ---- 4 words

    public int word(int a, int b, int morning, int minute) {
        if (!desks.areTwo(a, b) || !isMorning(morning) || !isIn(minute, 0, TOP)) {
            return BAD;
        }
        return talk.tell(a, b, morning, minute);
    }

    public int wall(int a, int b, boolean is) {
        if (!desks.areTwo(a, b) || desks.houseOf(a) != desks.houseOf(b)) {
            return BAD;
        }
        return talk.setWall(a, b, is);
    }

    public int crossed(int morning) {
        if (!isMorning(morning)) {
            return BAD;
        }
        return talk.crossings(morning);
    }

    public int knew(int desk, int morning, int minute) {
        if (!desks.has(desk) || !isMorning(morning) || !isIn(minute, 0, TOP)) {
            return BAD;
        }
        return talk.knowers(desk, morning, minute);
    }

    public int way(int a, int b, int morning) {
        if (!desks.has(a) || !desks.has(b) || !isMorning(morning)) {
            return BAD;
        }
        return talk.fewestWords(a, b, morning);
    }

    public int owe(int a, int b, int n) {
        if (!desks.areTwo(a, b) || !isIn(n, 0, 99)) {
            return BAD;
        }
        return favours.set(a, b, n);
    }

    public int net(int desk) {
        if (!desks.has(desk)) {
            return BAD - LOW;
        }
        return favours.balance(desk);
    }

    public int ringed() {
        return favours.inRings();
    }

    // ---- 5 plans

    public int best(int g, int from, int to) {
        if (!isPlan(g, from, to)) {
            return BAD;
        }
        return rates.bestCut(g, from, to, found);
    }

    public long worst(int g, int from, int to, int what) {
        if (!isPlan(g, from, to) || !isBit(what)) {
            return BAD - LOWEST;
        }
        return rates.bestCut(g, from, to, found) == NONE ? NONE - LOWEST : found.part(what);
    }

    // ---- 6 sheets

    public int sheet(int sheet, int lane, int n) {
        if (!Sheets.isNamed(sheet, lane) || n > Sheets.LONGEST) {
            return BAD;
        }
        if (n < 0) {
            return SIZE;
        }
        sheets.renew(sheet, lane, n);
        return n;
    }

    public int drop(int sheet) {
        if (!Sheets.isNamed(sheet, 0)) {
            return BAD;
        }
        return sheets.clear(sheet);
    }

    public int item(int sheet, int lane, int i, int v) {
        int refusal = sheets.refusal(sheet, lane, i, 1);
        if (refusal != 0) {
            return refusal;
        }
        sheets.write(sheet, i, v);
        return 1;
    }

    private static boolean isIn(int v, int low, int high) {
        return v >= low && v <= high;
    }

    private static boolean isBit(int v) {
        return v == 0 || v == 1;
    }

    private static boolean isHouse(int v) {
        return v >= 0 && v < HOUSES;
    }

    private static boolean isMorning(int v) {
        return v >= 0 && v < MORNINGS;
    }

    private static boolean isSayable(int v) {
        return isIn(v, SILENT, TOP);
    }

    private static boolean isPlan(int g, int from, int to) {
        return isIn(g, 1, 4) && isMorning(from) && isMorning(to) && from <= to;
    }

    private boolean findTrue(int house, int morning) {
        return loans.findTrue(house, morning, book.inForce(morning, SPREAD));
    }

    private int outSign(int house, int morning) {
        int v = panel.heard(house, morning);
        if (v == SILENT || !findTrue(house, morning)) {
            return 0;
        }
        if (v > loans.highEnd()) {
            return 1;
        }
        return v < loans.lowEnd() ? -1 : 0;
    }

    private boolean findRight(int morning, Fraction into) {
        for (int house = 0; house < HOUSES; house++) {
            int side = outSign(house, morning);
            if (side == 0) {
                righted[house] = panel.heard(house, morning);
            } else {
                // the span that the loans found last is this HOUSE's
                righted[house] = side > 0 ? loans.highEnd() : loans.lowEnd();
            }
        }
        return rates.findOf(righted, morning, into);
    }

    private static int chance(int mornings, int with) {
        long ways = 1;
        long asMany = 0;
        for (int k = 0; k <= mornings; k++) {
            if (k >= with) {
                asMany += ways;
            }
            ways = ways * (mornings - k) / (k + 1);
        }
        // there are at most 30 MORNINGS, so a thousand times 2^30 stays far inside a long
        return (int) (asMany * 1000 >> mornings);
    }

    /** A number in lowest terms, below above 0; used again, so that no call makes a new one. */
    private static final class Fraction {
        private long above = 0;
        private long below = 1;

        void put(long a, long b) {
            long divisor = b;
            long rest = Math.abs(a);
            for (int step = 0; step < 200 && rest != 0; step++) {
                long next = divisor % rest;
                divisor = rest;
                rest = next;
            }
            if (divisor > 0) {
                above = a / divisor;
                below = b / divisor;
            }
        }

        void copy(Fraction from) {
            above = from.above;
            below = from.below;
        }

        void putDifference(Fraction x, Fraction y) {
            put(x.above * y.below - y.above * x.below, x.below * y.below);
        }

        /** Becomes so many times itself, less a whole number. */
        void scale(int times, int less) {
            put(times * above - less * below, below);
        }

        boolean isAbove(Fraction than) {
            return above * than.below > than.above * below;
        }

        boolean isAtLeast(int v) {
            return above >= v * below;
        }

        long part(int what) {
            return what == 0 ? above : below;
        }
    }

    /** What HOUSES SAID, and the order and mean of a row of that. */
    private static final class Panel {
        private final int[][] heard = new int[MORNINGS][HOUSES];
        /** The HOUSES that have SAID in the row that was sorted last, the lowest first. */
        private final int[] order = new int[HOUSES];
        private int speakers = 0;

        Panel() {
            for (int morning = 0; morning < MORNINGS; morning++) {
                for (int house = 0; house < HOUSES; house++) {
                    heard[morning][house] = SILENT;
                }
            }
        }

        int heard(int house, int morning) {
            return heard[morning][house];
        }

        void hear(int house, int morning, int v) {
            heard[morning][house] = v;
        }

        int[] rowOf(int morning) {
            return heard[morning];
        }

        boolean findMean(int[] row, int cut, int least, Fraction into) {
            sort(row);
            int left = speakers - 2 * cut;
            if (speakers < least || left < 1) {
                return false;
            }
            int sum = 0;
            for (int i = cut; i < cut + left; i++) {
                sum += row[order[i]];
            }
            into.put(sum, left);
            return true;
        }

        void sort(int[] row) {
            speakers = 0;
            for (int house = 0; house < HOUSES; house++) {
                if (row[house] != SILENT) {
                    insert(row, house);
                }
            }
        }

        private void insert(int[] row, int house) {
            int at = speakers;
            // like ones stay behind those of lower HOUSES, which came first
            for (; at > 0 && row[order[at - 1]] > row[house]; at--) {
                order[at] = order[at - 1];
            }
            order[at] = house;
            speakers++;
        }

        /** Whether a HOUSE of the row sorted last is among the lowest (-1) or highest (1) ones, or not (0). */
        int sideOf(int house, int cut) {
            for (int i = 0; i < cut && i < speakers; i++) {
                if (order[i] == house) {
                    return -1;
                }
                if (order[speakers - 1 - i] == house) {
                    return 1;
                }
            }
            return 0;
        }

        /** The g highest (way 0) or lowest (way 1) HOUSES of the row sorted last, as bits. */
        int farthest(int g, int way) {
            int bits = 0;
            for (int i = 0; i < g && i < speakers; i++) {
                bits |= 1 << (way == 0 ? order[speakers - 1 - i] : order[i]);
            }
            return bits;
        }
    }

    /** THE TAPE, and the RULES by EDITIONS. */
    private static final class RuleBook {
        private static final int TAPE = 40, EDITIONS = 4, CLAUSES = 5, FAULT = -20;
        private static final int[] AT_FIRST = {1, 3, 20};
        private static final int[] LOWEST_RULE = {0, 1, 0};
        private static final int[] HIGHEST_RULE = {3, 8, 99};

        private final int[] tape = new int[TAPE];
        private int typed = 0;
        private final int[] starts = new int[EDITIONS];
        private final int[][] told = new int[EDITIONS][3];
        private int editions = 0;
        /** What the text being read tells so far, and the place up to which it is read. */
        private final int[] draft = new int[3];
        private int at = 0;

        static boolean isTypeable(long w, int n) {
            for (int i = 0; i < n; i++) {
                if (!isIn(byteOf(w, i), 32, 126)) {
                    return false;
                }
            }
            return true;
        }

        private static int byteOf(long w, int i) {
            return (int) (w >> 8 * i & 255);
        }

        int addToTape(long w, int n) {
            if (typed + n > TAPE) {
                return FULL;
            }
            for (int i = n - 1; i >= 0; i--) {
                tape[typed] = byteOf(w, i);
                typed++;
            }
            return typed;
        }

        int editionCount() {
            return editions;
        }

        boolean mayStart(int from) {
            return editions == 0 || from >= starts[editions - 1];
        }

        /** THE TAPE is empty behind this, whether its text is taken or not. */
        int addEdition(int from) {
            int fault = readTape();
            typed = 0;
            if (fault != 0) {
                return fault;
            }
            if (editions >= EDITIONS) {
                return FULL;
            }
            starts[editions] = from;
            for (int what = CUT; what <= SPREAD; what++) {
                told[editions][what] = draft[what];
            }
            editions++;
            return editions - 1;
        }

        int inForce(int morning, int what) {
            for (int edition = editions - 1; edition >= 0; edition--) {
                if (starts[edition] <= morning) {
                    return told[edition][what];
                }
            }
            return AT_FIRST[what];
        }

        /** Puts what THE TAPE tells into the draft: 0, or a FAULT. */
        private int readTape() {
            at = 0;
            for (int what = CUT; what <= SPREAD; what++) {
                draft[what] = editions == 0 ? AT_FIRST[what] : told[editions - 1][what];
            }
            for (int clause = 1; clause <= CLAUSES; clause++) {
                int fault = readClause();
                if (fault != 0) {
                    return fault;
                }
                skipBlanks();
                if (at == typed) {
                    return 0;
                }
                if (tape[at] != ';' || clause == CLAUSES) {
                    return FAULT - at;
                }
                at++;
            }
            return 0;
        }

        private int readClause() {
            skipBlanks();
            int what = at < typed ? ruleNamed(tape[at]) : NONE;
            if (what == NONE) {
                return FAULT - at;
            }
            at++;
            skipBlanks();
            int first = at;
            int value = readNumber();
            if (at == first || !isIn(value, LOWEST_RULE[what], HIGHEST_RULE[what])) {
                return FAULT - first;
            }
            draft[what] = value;
            return 0;
        }

        private static int ruleNamed(int sign) {
            switch (sign) {
                case 'c':
                    return CUT;
                case 'l':
                    return LEAST;
                case 's':
                    return SPREAD;
                default:
                    return NONE;
            }
        }

        private int readNumber() {
            int value = 0;
            for (; at < typed && isIn(tape[at], '0', '9'); at++) {
                // held at 100, which is beyond every RULE, so that a long number cannot wrap around
                value = Math.min(value * 10 + tape[at] - '0', 100);
            }
            return value;
        }

        private void skipBlanks() {
            while (at < typed && tape[at] == ' ') {
                at++;
            }
        }
    }

    /** THE RATE as it is, and as it were if HOUSES said something else. */
    private static final class Rates {
        final Panel panel = new Panel();
        final RuleBook book = new RuleBook();
        private final int[] bent = new int[HOUSES];
        private final Fraction plain = new Fraction();
        private final Fraction bentMean = new Fraction();
        private final Fraction moved = new Fraction();
        private final Fraction greatest = new Fraction();

        boolean find(int morning, Fraction into) {
            return findOf(panel.rowOf(morning), morning, into);
        }

        /** THE RATE of a row by the RULES of a MORNING. */
        boolean findOf(int[] row, int morning, Fraction into) {
            return panel.findMean(row, book.inForce(morning, CUT), book.inForce(morning, LEAST), into);
        }

        boolean findReach(int house, int morning, int end, Fraction into) {
            bend(0, morning, end);
            bent[house] = endOf(end);
            return findOf(bent, morning, into);
        }

        boolean findMove(int group, int morning, int way, int cut, Fraction into) {
            int least = book.inForce(morning, LEAST);
            if (!panel.findMean(panel.rowOf(morning), cut, least, plain)) {
                return false;
            }
            bend(group, morning, way);
            if (!panel.findMean(bent, cut, least, bentMean)) {
                return false;
            }
            if (way == 0) {
                into.putDifference(plain, bentMean);
            } else {
                into.putDifference(bentMean, plain);
            }
            return true;
        }

        /**
         * MANY as bits, or NONE. Groups with SILENT HOUSES are not left out: what such a one moves, a lesser
         * group without them moves too, and that comes ahead of it.
         */
        int fewest(int morning, int way, int v) {
            int cut = book.inForce(morning, CUT);
            int found = NONE;
            int bits = HOUSES + 1;
            for (int group = 1; group < 1 << HOUSES; group++) {
                boolean fewer = Integer.bitCount(group) < bits;
                if (fewer && findMove(group, morning, way, cut, moved) && moved.isAtLeast(v)) {
                    found = group;
                    bits = Integer.bitCount(group);
                }
            }
            return found;
        }

        /** THE BEST CUT, with its greatest MOVE put into a number, or NONE. */
        int bestCut(int g, int from, int to, Fraction into) {
            int best = NONE;
            for (int cut = 0; cut <= 3; cut++) {
                if (findGreatest(g, from, to, cut) && (best == NONE || into.isAbove(greatest))) {
                    best = cut;
                    into.copy(greatest);
                }
            }
            return best;
        }

        /**
         * The greatest MOVE of any g HOUSES by a CUT. No group is tried but that of the g highest (down) or
         * lowest (up) ones: whichever others are put to 0 or 999, the row then is, in order, at no place farther.
         */
        private boolean findGreatest(int g, int from, int to, int cut) {
            boolean any = false;
            greatest.put(0, 1);
            for (int morning = from; morning <= to; morning++) {
                for (int way = 0; way <= 1; way++) {
                    panel.sort(panel.rowOf(morning));
                    if (findMove(panel.farthest(g, way), morning, way, cut, moved)) {
                        any = true;
                        if (moved.isAbove(greatest)) {
                            greatest.copy(moved);
                        }
                    }
                }
            }
            return any;
        }

        private void bend(int group, int morning, int way) {
            for (int house = 0; house < HOUSES; house++) {
                int v = panel.heard(house, morning);
                boolean bends = v != SILENT && (group >> house & 1) == 1;
                bent[house] = bends ? endOf(way) : v;
            }
        }

        private static int endOf(int way) {
            return way == 0 ? 0 : TOP;
        }
    }

    /** DESKS of HOUSES, and the CONTRACTS between them. */
    private static final class Desks {
        private static final int CONTRACTS = 24;

        private final int[] houses = new int[DESKS];
        private int opened = 0;
        private final int[] getters = new int[CONTRACTS];
        private final int[] givers = new int[CONTRACTS];
        private final int[] mornings = new int[CONTRACTS];
        private final int[] sizes = new int[CONTRACTS];
        private final int[] strikes = new int[CONTRACTS];
        private int signed = 0;

        int deskCount() {
            return opened;
        }

        int contractCount() {
            return signed;
        }

        boolean has(int desk) {
            return desk >= 0 && desk < opened;
        }

        boolean areTwo(int a, int b) {
            return has(a) && has(b) && a != b;
        }

        int houseOf(int desk) {
            return houses[desk];
        }

        int open(int house) {
            if (opened >= DESKS) {
                return FULL;
            }
            houses[opened] = house;
            opened++;
            return opened - 1;
        }

        int sign(int a, int b, int morning, int size, int strike) {
            if (signed >= CONTRACTS) {
                return FULL;
            }
            getters[signed] = a;
            givers[signed] = b;
            mornings[signed] = morning;
            sizes[signed] = size;
            strikes[signed] = strike;
            signed++;
            return signed - 1;
        }

        int deskGain(int desk, int morning) {
            int sum = 0;
            for (int contract = 0; contract < signed; contract++) {
                sum += signedSize(contract, desk, morning);
            }
            return sum;
        }

        int houseGain(int house, int morning) {
            int sum = 0;
            for (int contract = 0; contract < signed; contract++) {
                if (mornings[contract] == morning) {
                    sum += houses[getters[contract]] == house ? sizes[contract] : 0;
                    sum -= houses[givers[contract]] == house ? sizes[contract] : 0;
                }
            }
            return sum;
        }

        /** All SIZES times STRIKES by which a DESK gets on a MORNING, less those by which it gives. */
        int strikeSum(int desk, int morning) {
            int sum = 0;
            for (int contract = 0; contract < signed; contract++) {
                sum += signedSize(contract, desk, morning) * strikes[contract];
            }
            return sum;
        }

        /** HOUSES with a DESK whose GAIN has a sign, as bits. */
        int housesGaining(int morning, int sign) {
            int bits = 0;
            for (int desk = 0; desk < opened; desk++) {
                if (Integer.signum(deskGain(desk, morning)) == sign) {
                    bits |= 1 << houses[desk];
                }
            }
            return bits;
        }

        private int signedSize(int contract, int desk, int morning) {
            if (mornings[contract] != morning) {
                return 0;
            }
            if (getters[contract] == desk) {
                return sizes[contract];
            }
            return givers[contract] == desk ? -sizes[contract] : 0;
        }
    }

    /** LENT rows, and the span of them that was looked for last. */
    private static final class Loans {
        private static final int ROWS = 60;

        private final int[] houses = new int[ROWS];
        private final int[] mornings = new int[ROWS];
        private final int[] prices = new int[ROWS];
        private int rows = 0;
        private int low = 0;
        private int high = 0;

        int rowCount() {
            return rows;
        }

        int lowEnd() {
            return low;
        }

        int highEnd() {
            return high;
        }

        int lend(int house, int morning, int at) {
            if (rows >= ROWS) {
                return FULL;
            }
            houses[rows] = house;
            mornings[rows] = morning;
            prices[rows] = at;
            rows++;
            return rows - 1;
        }

        boolean findTrue(int house, int morning, int spread) {
            if (findSpan(1 << house, morning)) {
                return true;
            }
            if (!findAll(morning)) {
                return false;
            }
            low = Math.max(low - spread, 0);
            high = Math.min(high + spread, TOP);
            return true;
        }

        boolean findAll(int morning) {
            return findSpan((1 << HOUSES) - 1, morning);
        }

        private boolean findSpan(int group, int morning) {
            low = TOP + 1;
            high = -1;
            for (int row = 0; row < rows; row++) {
                if (mornings[row] == morning && (group >> houses[row] & 1) == 1) {
                    low = Math.min(low, prices[row]);
                    high = Math.max(high, prices[row]);
                }
            }
            return low <= high;
        }
    }

    /** Brokers' RUNS. */
    private static final class Runs {
        private static final int ROWS = 20;

        private final int[] mornings = new int[ROWS];
        private final int[] prices = new int[ROWS];
        private int given = 0;

        int runCount() {
            return given;
        }

        boolean has(int run) {
            return run >= 0 && run < given;
        }

        int morningOf(int run) {
            return mornings[run];
        }

        int priceOf(int run) {
            return prices[run];
        }

        int give(int morning, int price) {
            if (given >= ROWS) {
                return FULL;
            }
            mornings[given] = morning;
            prices[given] = price;
            given++;
            return given - 1;
        }
    }

    /** WORDS from DESK to DESK, and WALLS between DESKS. */
    private static final class Talk {
        private static final int WORDS = 40;
        private static final int BEFORE = -1, NEVER = TOP + 1;

        private final int[] tellers = new int[WORDS];
        private final int[] hearers = new int[WORDS];
        private final int[] mornings = new int[WORDS];
        private final int[] minutes = new int[WORDS];
        private int words = 0;
        /** Of each DESK those behind a WALL from it, as bits. */
        private final int[] walls = new int[DESKS];
        /** The earliest MINUTE at which each DESK is told, by so many WORDS as were followed, and by one more. */
        private final int[] toldAt = new int[DESKS];
        private final int[] nextToldAt = new int[DESKS];

        int wordCount() {
            return words;
        }

        int tell(int a, int b, int morning, int minute) {
            if (words >= WORDS) {
                return FULL;
            }
            tellers[words] = a;
            hearers[words] = b;
            mornings[words] = morning;
            minutes[words] = minute;
            words++;
            return words - 1;
        }

        int setWall(int a, int b, boolean is) {
            int was = walls[a] >> b & 1;
            if ((was == 1) != is) {
                walls[a] ^= 1 << b;
                walls[b] ^= 1 << a;
            }
            return was;
        }

        int crossings(int morning) {
            int sum = 0;
            for (int word = 0; word < words; word++) {
                if (mornings[word] == morning) {
                    sum += walls[tellers[word]] >> hearers[word] & 1;
                }
            }
            return sum;
        }

        int knowers(int desk, int morning, int minute) {
            startFrom(desk);
            // no DESK needs to be told twice, so the longest chain has a WORD less than there are DESKS
            for (int followed = 1; followed < DESKS; followed++) {
                followOne(morning, minute);
            }
            int bits = 0;
            for (int d = 0; d < DESKS; d++) {
                if (toldAt[d] != NEVER) {
                    bits |= 1 << d;
                }
            }
            return bits;
        }

        int fewestWords(int a, int b, int morning) {
            startFrom(a);
            for (int followed = 0; followed < DESKS; followed++) {
                if (toldAt[b] != NEVER) {
                    return followed;
                }
                followOne(morning, TOP);
            }
            return NONE;
        }

        private void startFrom(int desk) {
            for (int d = 0; d < DESKS; d++) {
                toldAt[d] = NEVER;
            }
            // it knew from 0 on, so its own WORDS at MINUTE 0 are late enough
            toldAt[desk] = BEFORE;
        }

        private void followOne(int morning, int minute) {
            System.arraycopy(toldAt, 0, nextToldAt, 0, DESKS);
            for (int word = 0; word < words; word++) {
                int at = minutes[word];
                boolean heard = mornings[word] == morning && at <= minute && at > toldAt[tellers[word]];
                if (heard && at < nextToldAt[hearers[word]]) {
                    nextToldAt[hearers[word]] = at;
                }
            }
            System.arraycopy(nextToldAt, 0, toldAt, 0, DESKS);
        }
    }

    /** FAVOURS that DESKS owe one another. */
    private static final class Favours {
        private final int[][] owed = new int[DESKS][DESKS];
        /** Of each DESK those to which favours lead on from it, as bits. */
        private final int[] leads = new int[DESKS];

        int set(int a, int b, int n) {
            int was = owed[a][b];
            owed[a][b] = n;
            return was;
        }

        int balance(int desk) {
            int sum = 0;
            for (int d = 0; d < DESKS; d++) {
                sum += owed[d][desk] - owed[desk][d];
            }
            return sum;
        }

        /** No DESK owes itself, so one to which favours lead back is in a RING with another one. */
        int inRings() {
            findLeads();
            int bits = 0;
            for (int d = 0; d < DESKS; d++) {
                bits |= leads[d] & 1 << d;
            }
            return bits;
        }

        private void findLeads() {
            for (int a = 0; a < DESKS; a++) {
                leads[a] = 0;
                for (int b = 0; b < DESKS; b++) {
                    leads[a] |= owed[a][b] > 0 ? 1 << b : 0;
                }
            }
            for (int by = 0; by < DESKS; by++) {
                for (int a = 0; a < DESKS; a++) {
                    if ((leads[a] >> by & 1) == 1) {
                        leads[a] |= leads[by];
                    }
                }
            }
        }
    }

    /** SHEETS: each a row of a LANE, or nothing. */
    private static final class Sheets {
        private static final int SHEETS = 4, LANES = 3, LONGEST = 16;
        private static final int NOTHING = -1, BYTES = 0, SHORTS = 1;

        private final int[] lanes = new int[SHEETS];
        private final int[] lengths = new int[SHEETS];
        private final int[][] items = new int[SHEETS][LONGEST];

        Sheets() {
            for (int sheet = 0; sheet < SHEETS; sheet++) {
                lanes[sheet] = NOTHING;
            }
        }

        static boolean isNamed(int sheet, int lane) {
            return sheet >= 0 && sheet < SHEETS && lane >= 0 && lane < LANES;
        }

        /** Why n items from one on can't be had of a SHEET taken as a row of a LANE; 0 if they can. */
        int refusal(int sheet, int lane, int from, int n) {
            if (!isNamed(sheet, lane)) {
                return BAD;
            }
            if (lanes[sheet] == NOTHING) {
                return NULL;
            }
            if (lanes[sheet] != lane) {
                return CAST;
            }
            return from < 0 || from > lengths[sheet] - n ? INDEX : 0;
        }

        void renew(int sheet, int lane, int n) {
            lanes[sheet] = lane;
            lengths[sheet] = n;
            for (int i = 0; i < LONGEST; i++) {
                items[sheet][i] = 0;
            }
        }

        int clear(int sheet) {
            if (lanes[sheet] == NOTHING) {
                return NULL;
            }
            lanes[sheet] = NOTHING;
            return lengths[sheet];
        }

        int read(int sheet, int i) {
            return items[sheet][i];
        }

        void write(int sheet, int i, int v) {
            items[sheet][i] = narrowed(lanes[sheet], v);
        }

        private static int narrowed(int lane, int v) {
            if (lane == BYTES) {
                return (byte) v;
            }
            return lane == SHORTS ? (short) v : v;
        }
    }
}
