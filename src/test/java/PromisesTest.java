/** Each promise of the document with answers worked out by hand: ordinary inputs, edges, wrong inputs. */
public final class PromisesTest {
    private static final long FAR = 1L << 40;
    private static final long BAD_FRACTION = -1 - FAR, NO_FRACTION = -4 - FAR;
    private static final int MIN = Integer.MIN_VALUE, MAX = Integer.MAX_VALUE;
    private static int wrong = 0;
    private static int promise = 0;

    private static void due(String call, long got, long want) {
        if (got != want) {
            wrong++;
            System.out.println("promise " + promise + ": " + call + " answered " + got + ", due is " + want);
        }
    }

    private static void dueFraction(String call, long above, long below, long wantAbove, long wantBelow) {
        due(call + " above", above, wantAbove);
        due(call + " below", below, wantBelow);
    }

    private static void sayAll(SaidRate x, int morning, int... said) {
        for (int house = 0; house < said.length; house++) {
            x.say(house, morning, said[house]);
        }
    }

    private static void typeText(SaidRate x, String text) {
        for (int i = 0; i < text.length(); i++) {
            x.type(text.charAt(i), 1);
        }
    }

    private static int edition(SaidRate x, String text, int from) {
        typeText(x, text);
        return x.rules(from);
    }

    private static SaidRate withDesks(int... houses) {
        SaidRate x = new SaidRate();
        for (int house : houses) {
            x.desk(house);
        }
        return x;
    }

    public static void main(String[] args) {
        newObject();
        say();
        said();
        all();
        type();
        rules();
        rule();
        rate();
        thrown();
        reach();
        move();
        many();
        desk();
        contract();
        gain();
        paid();
        unlike();
        count();
        lent();
        truth();
        out();
        right();
        lost();
        lean();
        run();
        untrue();
        backed();
        word();
        wall();
        crossed();
        knew();
        way();
        owe();
        net();
        ringed();
        best();
        worst();
        sheet();
        drop();
        item();
        System.out.println(wrong == 0 ? "all promises hold" : wrong + " answers are not as due");
        if (wrong != 0 || promise != 40) {
            System.exit(1);
        }
    }

    private static void newObject() {
        promise = 1;
        SaidRate x = new SaidRate();
        for (int house = 0; house < 8; house++) {
            for (int morning = 0; morning < 30; morning++) {
                due("said", x.said(house, morning), -1);
                due("out", x.out(house, morning), 0);
                due("truth", x.truth(house, morning, 0), SaidRate.NONE);
            }
        }
        for (int what = 0; what < 6; what++) {
            due("count(" + what + ")", x.count(what), 0);
        }
        due("paid: no DESK", x.paid(0, 0, 0), BAD_FRACTION);
        due("ringed", x.ringed(), 0);
        due("drop", x.drop(3), SaidRate.NULL);
        SaidRate y = new SaidRate();
        y.say(0, 0, 7);
        y.desk(1);
        due("another object's SAID", x.said(0, 0), -1);
        due("another object's DESK", x.count(0), 0);
    }

    private static void say() {
        promise = 2;
        SaidRate x = new SaidRate();
        due("say", x.say(7, 29, 0), -1);
        due("say again", x.say(7, 29, 999), 0);
        due("say SILENT", x.say(7, 29, -1), 999);
        due("say behind SILENT", x.say(7, 29, 5), -1);
        for (int v : new int[] {-2, 1000, MIN, MAX}) {
            due("say v " + v, x.say(7, 29, v), -11);
        }
        for (int house : new int[] {-1, 8, MIN, MAX}) {
            due("say house " + house, x.say(house, 29, 1), -11);
        }
        for (int morning : new int[] {-1, 30, MIN, MAX}) {
            due("say morning " + morning, x.say(7, morning, 1), -11);
        }
        due("refused ones change nothing", x.said(7, 29), 5);
    }

    private static void said() {
        promise = 3;
        SaidRate x = new SaidRate();
        x.say(0, 0, 12);
        x.say(0, 1, 13);
        x.say(1, 0, 14);
        due("said", x.said(0, 0), 12);
        due("said another MORNING", x.said(0, 1), 13);
        due("said another HOUSE", x.said(1, 0), 14);
        due("said SILENT", x.said(1, 1), -1);
        for (int wrongOne : new int[] {-1, 30, MIN, MAX}) {
            due("said house", x.said(wrongOne, 0), -11);
            due("said morning", x.said(0, wrongOne), -11);
        }
        due("said house 8", x.said(8, 0), -11);
    }

    private static void all() {
        promise = 4;
        SaidRate x = new SaidRate();
        x.sheet(2, 0, 16);
        for (int i = 0; i < 16; i++) {
            x.item(2, 0, i, i * 8);
        }
        due("all bytes, the last 8", x.all(29, 2, 0, 8), 8);
        for (int house = 0; house < 8; house++) {
            due("said", x.said(house, 29), (house + 8) * 8);
        }
        x.item(2, 0, 0, 255);
        due("all: byte 255 is -1", x.all(28, 2, 0, 0), 8);
        due("said: SILENT by it", x.said(0, 28), -1);
        x.item(2, 0, 7, 128);
        due("all: byte 128 is -128", x.all(28, 2, 0, 0), SaidRate.NOT);
        due("NOT changes nothing", x.said(7, 28), 56);
        x.sheet(1, 2, 8);
        x.item(1, 2, 7, 999);
        due("all ints", x.all(0, 1, 2, 0), 8);
        due("said 7", x.said(7, 0), 999);
        x.item(1, 2, 7, 1000);
        x.item(1, 2, 0, 3);
        due("all: 1000", x.all(0, 1, 2, 0), SaidRate.NOT);
        due("NOT changes no HOUSE ahead of it", x.said(0, 0), 0);
        due("INDEX ahead of NOT", x.all(0, 1, 2, 1), SaidRate.INDEX);
        due("INDEX below 0", x.all(0, 1, 2, MIN), SaidRate.INDEX);
        due("INDEX high", x.all(0, 1, 2, MAX), SaidRate.INDEX);
        due("CAST ahead of INDEX", x.all(0, 1, 1, 99), SaidRate.CAST);
        due("NULL ahead of INDEX", x.all(0, 0, 1, 99), SaidRate.NULL);
        due("BAD lane ahead of NULL", x.all(0, 0, 3, 99), SaidRate.BAD);
        due("BAD lane", x.all(0, 0, -1, 0), SaidRate.BAD);
        due("BAD sheet", x.all(0, 4, 0, 0), SaidRate.BAD);
        due("BAD sheet", x.all(0, -1, 0, 0), SaidRate.BAD);
        due("BAD morning", x.all(30, 0, 0, 0), SaidRate.BAD);
        due("BAD morning", x.all(-1, 1, 2, 0), SaidRate.BAD);
        x.sheet(3, 1, 7);
        due("a row too short", x.all(0, 3, 1, 0), SaidRate.INDEX);
    }

    private static void type() {
        promise = 5;
        SaidRate x = new SaidRate();
        due("type 0 bytes", x.type(99, 0), SaidRate.BAD);
        due("type 9 bytes", x.type(99, 9), SaidRate.BAD);
        due("type 9 bytes that could stand", x.type(0x6363636363636363L, 9), SaidRate.BAD);
        due("type MIN bytes", x.type(99, MIN), SaidRate.BAD);
        due("byte 31", x.type(31, 1), SaidRate.BAD);
        due("byte 127", x.type(127, 1), SaidRate.BAD);
        due("byte 255", x.type(-1L, 8), SaidRate.BAD);
        due("byte 0 as the highest", x.type(99, 2), SaidRate.BAD);
        due("higher bytes don't count", x.type(0x0163L, 1), 1);
        due("a byte 126", x.type(126, 1), 2);
        due("a byte 32", x.type(32, 1), 3);
        due("rules: the ~ behind c", x.rules(0), -21);
        due("the highest first", x.type(0x63323B6C343B7335L, 8), 8);
        due("rules", x.rules(0), 0);
        due("CUT", x.rule(0, 0), 2);
        due("LEAST", x.rule(0, 1), 4);
        due("SPREAD", x.rule(0, 2), 5);
        for (int i = 1; i <= 4; i++) {
            due("type", x.type(0x6363636363636363L, 8), 8 * i);
        }
        due("type", x.type(0x63636363636363L, 7), 39);
        due("FULL", x.type(0x6363, 2), SaidRate.FULL);
        due("BAD ahead of FULL", x.type(0x6301, 2), SaidRate.BAD);
        due("the 40th", x.type(0x63, 1), 40);
        due("FULL", x.type(0x63, 1), SaidRate.FULL);
        due("BAD n ahead of FULL", x.type(0x63, -1), SaidRate.BAD);
    }

    private static void rules() {
        promise = 6;
        SaidRate x = new SaidRate();
        String[] faulty = {"", "   ", " c", "c ", "c4", "c  4", "l0", "l9", "l00", "s100", "s99999999999999999999", "x1", "c1;", "c1;;l1",
            "c1 2", "c1 l2", "1", "c1;c1;c1;c1;c1;", "c1;c1;c1;c1;c1 ;c4", "C1", "c-1", "c1,l2", "c4x", "c1 ; l 2 ; q", "c1;c9;x", "s1 00",
            "c1; "};
        int[] due = {-20, -23, -22, -22, -21, -23, -21, -21, -21, -21, -21, -20, -23, -23,
            -23, -23, -20, -34, -35, -20, -21, -22, -21, -31, -24, -23,
            -24};
        for (int i = 0; i < faulty.length; i++) {
            due("FAULT of '" + faulty[i] + "'", edition(x, faulty[i], 0), due[i]);
            due("a FAULT makes no EDITION", x.count(5), 0);
        }
        due("THE TAPE is empty behind a FAULT", x.type('c', 1), 1);
        due("BAD from", x.rules(30), SaidRate.BAD);
        due("BAD from", x.rules(-1), SaidRate.BAD);
        due("BAD from", x.rules(MIN), SaidRate.BAD);
        due("BAD from", x.rules(MAX), SaidRate.BAD);
        due("THE TAPE stays behind BAD", x.type('0', 1), 2);
        due("EDITION 0", x.rules(10), 0);
        due("THE TAPE is empty then", x.type('s', 1), 1);
        due("BAD: ahead of the one ahead", x.rules(9), SaidRate.BAD);
        due("THE TAPE stays", x.type('7', 1), 2);
        due("the MORNING of the one ahead will do", x.rules(10), 1);
        due("five CLAUSES, blanks, noughts ahead", edition(x, "  c 003 ;l1;s0; l 08;s99  ", 29), 2);
        due("the last EDITION", edition(x, "s98", 29), 3);
        due("a FAULT ahead of FULL", edition(x, "s98;", 29), -24);
        due("BAD ahead of a FAULT", edition(x, "s98;", 28), SaidRate.BAD);
        due("THE TAPE stayed", x.type('c', 1), 5);
        due("BAD ahead of FULL", x.rules(28), SaidRate.BAD);
        due("FAULT at the end", x.rules(29), -25);
        due("FULL", edition(x, "s1", 29), SaidRate.FULL);
        due("THE TAPE is empty behind FULL", x.type('c', 1), 1);
        due("EDITIONS", x.count(5), 4);
    }

    private static void rule() {
        promise = 7;
        SaidRate x = new SaidRate();
        int[] atFirst = {1, 3, 20};
        for (int what = 0; what < 3; what++) {
            due("at first", x.rule(0, what), atFirst[what]);
            due("at first", x.rule(29, what), atFirst[what]);
        }
        edition(x, "c1;c0;c3", 5);
        edition(x, "l8", 10);
        edition(x, "s0;l1", 10);
        edition(x, "c0;s99", 29);
        int[][] want = {{4, 1, 3, 20}, {5, 3, 3, 20}, {9, 3, 3, 20}, {10, 3, 1, 0}, {28, 3, 1, 0}, {29, 0, 1, 99}};
        for (int[] row : want) {
            for (int what = 0; what < 3; what++) {
                due("rule(" + row[0] + ", " + what + ")", x.rule(row[0], what), row[what + 1]);
            }
        }
        due("BAD", x.rule(30, 0), SaidRate.BAD);
        due("BAD", x.rule(-1, 0), SaidRate.BAD);
        due("BAD", x.rule(0, 3), SaidRate.BAD);
        due("BAD", x.rule(0, -1), SaidRate.BAD);
        due("BAD", x.rule(MAX, MIN), SaidRate.BAD);
    }

    private static void rate() {
        promise = 8;
        SaidRate x = new SaidRate();
        sayAll(x, 0, 5, 7);
        due("fewer than LEAST", x.rate(0, 0), NO_FRACTION);
        due("fewer than LEAST, below", x.rate(0, 1), NO_FRACTION);
        x.say(2, 0, 0);
        dueFraction("the middle of three", x.rate(0, 0), x.rate(0, 1), 5, 1);
        x.say(7, 0, 8);
        dueFraction("(5 + 7) / 2", x.rate(0, 0), x.rate(0, 1), 6, 1);
        x.say(1, 0, 6);
        dueFraction("(5 + 6) / 2", x.rate(0, 0), x.rate(0, 1), 11, 2);
        sayAll(x, 1, 0, 0, 0);
        dueFraction("0", x.rate(1, 0), x.rate(1, 1), 0, 1);
        edition(x, "c0;l1", 2);
        sayAll(x, 2, 1, 2, 3, 4, 5, 6, 7, 9);
        dueFraction("nothing thrown away: 37 / 8", x.rate(2, 0), x.rate(2, 1), 37, 8);
        x.say(7, 3, 999);
        dueFraction("one alone", x.rate(3, 0), x.rate(3, 1), 999, 1);
        due("none alone", x.rate(4, 0), NO_FRACTION);
        edition(x, "c3", 5);
        sayAll(x, 5, 1, 2, 3, 4, 5, 6);
        due("nothing left", x.rate(5, 0), NO_FRACTION);
        x.say(7, 5, 0);
        dueFraction("one left", x.rate(5, 0), x.rate(5, 1), 3, 1);
        due("BAD", x.rate(30, 0), BAD_FRACTION);
        due("BAD", x.rate(-1, 1), BAD_FRACTION);
        due("BAD", x.rate(0, 2), BAD_FRACTION);
        due("BAD", x.rate(0, -1), BAD_FRACTION);
        due("BAD ahead of NONE", x.rate(4, MAX), BAD_FRACTION);
    }

    private static void thrown() {
        promise = 9;
        SaidRate x = new SaidRate();
        sayAll(x, 0, 5, 5, 5, 5);
        int[] alike = {-1, 0, 0, 1};
        for (int house = 0; house < 4; house++) {
            due("of like ones by HOUSES", x.thrown(house, 0), alike[house]);
        }
        due("SILENT", x.thrown(4, 0), -12);
        sayAll(x, 1, 9, 5);
        due("no RATE", x.thrown(0, 1), -14);
        due("SILENT ahead of no RATE", x.thrown(2, 1), -12);
        edition(x, "c2", 2);
        sayAll(x, 2, 50, 10, 40, 20, 30);
        int[] two = {1, -1, 1, -1, 0};
        for (int house = 0; house < 5; house++) {
            due("two and two", x.thrown(house, 2), two[house]);
        }
        edition(x, "c0", 3);
        sayAll(x, 3, 50, 10, 40);
        due("none thrown away", x.thrown(0, 3), 0);
        due("BAD", x.thrown(8, 0), -11);
        due("BAD", x.thrown(-1, 0), -11);
        due("BAD", x.thrown(0, 30), -11);
        due("BAD", x.thrown(MAX, MIN), -11);
    }

    private static void reach() {
        promise = 10;
        SaidRate x = new SaidRate();
        sayAll(x, 0, 100, 200, 300, 400);
        dueFraction("down: 0 100 | 200 300 ... ", x.reach(3, 0, 0, 0), x.reach(3, 0, 0, 1), 150, 1);
        dueFraction("up", x.reach(0, 0, 1, 0), x.reach(0, 0, 1, 1), 350, 1);
        dueFraction("a SILENT one", x.reach(7, 0, 1, 0), x.reach(7, 0, 1, 1), 300, 1);
        sayAll(x, 1, 100, 200);
        due("no RATE then", x.reach(0, 1, 0, 0), NO_FRACTION);
        dueFraction("a RATE by the third", x.reach(2, 1, 0, 0), x.reach(2, 1, 0, 1), 100, 1);
        dueFraction("a RATE by the third", x.reach(2, 1, 1, 0), x.reach(2, 1, 1, 1), 200, 1);
        due("it stays SILENT", x.said(2, 1), -1);
        due("BAD", x.reach(8, 0, 0, 0), BAD_FRACTION);
        due("BAD", x.reach(-1, 0, 0, 0), BAD_FRACTION);
        due("BAD", x.reach(0, 30, 0, 0), BAD_FRACTION);
        due("BAD", x.reach(0, 0, 2, 0), BAD_FRACTION);
        due("BAD", x.reach(0, 0, -1, 0), BAD_FRACTION);
        due("BAD", x.reach(0, 0, 0, 2), BAD_FRACTION);
    }

    private static void move() {
        promise = 11;
        SaidRate x = new SaidRate();
        sayAll(x, 0, 100, 200, 300, 401);
        dueFraction("the lowest down", x.move(1, 0, 0, 0), x.move(1, 0, 0, 1), 0, 1);
        dueFraction("the lowest up: 350.5 less 250", x.move(1, 0, 1, 0), x.move(1, 0, 1, 1), 201, 2);
        dueFraction("two down: 250 less (0 + 100) / 2", x.move(12, 0, 0, 0), x.move(12, 0, 0, 1), 200, 1);
        dueFraction("SILENT ones don't count", x.move(12 + 240, 0, 0, 0), x.move(12 + 240, 0, 0, 1), 200, 1);
        dueFraction("SILENT ones alone", x.move(240, 0, 1, 0), x.move(240, 0, 1, 1), 0, 1);
        dueFraction("all up", x.move(255, 0, 1, 0), x.move(255, 0, 1, 1), 749, 1);
        due("no RATE", x.move(1, 1, 0, 0), NO_FRACTION);
        due("BAD", x.move(0, 0, 0, 0), BAD_FRACTION);
        due("BAD", x.move(256, 0, 0, 0), BAD_FRACTION);
        due("BAD", x.move(-1, 0, 0, 0), BAD_FRACTION);
        due("BAD", x.move(1, 30, 0, 0), BAD_FRACTION);
        due("BAD", x.move(1, 0, 2, 0), BAD_FRACTION);
        due("BAD ahead of NONE", x.move(1, 1, 0, -1), BAD_FRACTION);
        due("nothing has changed", x.said(0, 0), 100);
    }

    private static void many() {
        promise = 12;
        SaidRate x = new SaidRate();
        sayAll(x, 0, 100, 200, 300, 400);
        due("one of like ones, the least bits", x.many(0, 0, 50), 2);
        due("just as far", x.many(0, 0, 100), 4);
        due("two must; 0 and 1 are not enough", x.many(0, 0, 101), 5);
        due("all down", x.many(0, 0, 250), 7);
        due("none could", x.many(0, 0, 251), SaidRate.NONE);
        due("one up", x.many(0, 1, 100), 1);
        due("all up", x.many(0, 1, 749), 7);
        due("none could", x.many(0, 1, 750), SaidRate.NONE);
        due("no RATE", x.many(1, 1, 1), SaidRate.NONE);
        x.say(0, 0, -1);
        x.say(7, 0, 100);
        due("SILENT ones are in no group", x.many(0, 1, 749), 2 + 4 + 8);
        due("BAD", x.many(0, 0, 0), SaidRate.BAD);
        due("BAD", x.many(0, 0, 1000), SaidRate.BAD);
        due("BAD", x.many(30, 0, 1), SaidRate.BAD);
        due("BAD", x.many(-1, 0, 1), SaidRate.BAD);
        due("BAD", x.many(0, 2, 1), SaidRate.BAD);
        due("BAD", x.many(0, -1, 1), SaidRate.BAD);
    }

    private static void desk() {
        promise = 13;
        SaidRate x = new SaidRate();
        due("BAD", x.desk(8), SaidRate.BAD);
        due("BAD", x.desk(-1), SaidRate.BAD);
        for (int i = 0; i < 12; i++) {
            due("desk", x.desk(7 - i % 8), i);
        }
        due("FULL", x.desk(0), SaidRate.FULL);
        due("BAD ahead of FULL", x.desk(MAX), SaidRate.BAD);
        due("DESKS", x.count(0), 12);
    }

    private static void contract() {
        promise = 14;
        SaidRate x = withDesks(0, 0, 1);
        int[][] bad = {{0, 0, 0, 1, 0}, {3, 0, 0, 1, 0}, {0, 3, 0, 1, 0}, {-1, 0, 0, 1, 0}, {0, MIN, 0, 1, 0}, {0, 1, 30, 1, 0},
            {0, 1, -1, 1, 0}, {0, 1, 0, 0, 0}, {0, 1, 0, 100, 0}, {0, 1, 0, 1, -1}, {0, 1, 0, 1, 1000}};
        for (int[] c : bad) {
            due("BAD", x.contract(c[0], c[1], c[2], c[3], c[4]), SaidRate.BAD);
        }
        due("none of these is there", x.count(1), 0);
        for (int i = 0; i < 24; i++) {
            due("contract", x.contract(i % 2, 2, 29, 99, 999), i);
        }
        due("FULL", x.contract(0, 1, 0, 1, 0), SaidRate.FULL);
        due("BAD ahead of FULL", x.contract(0, 0, 0, 1, 0), SaidRate.BAD);
        due("GAIN in all", x.gain(2, 29, 0), -24 * 99);
    }

    private static void gain() {
        promise = 15;
        SaidRate x = withDesks(3, 4, 3);
        x.contract(0, 1, 5, 10, 1);
        x.contract(1, 0, 5, 4, 2);
        x.contract(2, 0, 5, 3, 2);
        x.contract(2, 1, 6, 50, 2);
        due("10 - 4 - 3", x.gain(0, 5, 0), 3);
        due("4 - 10", x.gain(1, 5, 0), -6);
        due("3", x.gain(2, 5, 0), 3);
        due("together", x.gain(0, 5, 1), 6);
        due("together", x.gain(2, 5, 1), 6);
        due("another MORNING", x.gain(2, 6, 0), 50);
        due("together, by another DESK", x.gain(0, 6, 1), 50);
        due("none", x.gain(0, 7, 0), 0);
        due("BAD", x.gain(3, 5, 0), -10001);
        due("BAD", x.gain(-1, 5, 0), -10001);
        due("BAD", x.gain(0, 30, 0), -10001);
        due("BAD", x.gain(0, 5, 2), -10001);
        due("BAD", x.gain(0, 5, -1), -10001);
    }

    private static void paid() {
        promise = 16;
        SaidRate x = withDesks(0, 1, 2);
        x.contract(0, 1, 0, 10, 100);
        x.contract(1, 2, 0, 4, 300);
        dueFraction("0 without a RATE", x.paid(0, 0, 0), x.paid(0, 0, 1), 0, 1);
        sayAll(x, 0, 1, 150, 151, 999);
        dueFraction("10 times (150.5 - 100)", x.paid(0, 0, 0), x.paid(0, 0, 1), 505, 1);
        dueFraction("-505 and 4 times -149.5", x.paid(1, 0, 0), x.paid(1, 0, 1), -1103, 1);
        dueFraction("598", x.paid(2, 0, 0), x.paid(2, 0, 1), 598, 1);
        x.contract(2, 0, 0, 1, 150);
        dueFraction("598.5", x.paid(2, 0, 0), x.paid(2, 0, 1), 1197, 2);
        dueFraction("504.5", x.paid(0, 0, 0), x.paid(0, 0, 1), 1009, 2);
        x.contract(0, 1, 1, 3, 0);
        sayAll(x, 1, 1, 10, 10, 11, 999);
        dueFraction("a SIZE that the below goes into", x.paid(1, 1, 0), x.paid(1, 1, 1), -31, 1);
        dueFraction("no CONTRACT", x.paid(2, 1, 0), x.paid(2, 1, 1), 0, 1);
        due("BAD", x.paid(3, 0, 0), BAD_FRACTION);
        due("BAD", x.paid(-1, 0, 0), BAD_FRACTION);
        due("BAD", x.paid(0, 30, 0), BAD_FRACTION);
        due("BAD", x.paid(0, 0, 2), BAD_FRACTION);
    }

    private static void unlike() {
        promise = 17;
        SaidRate x = withDesks(7, 7, 0, 0, 1);
        due("at first", x.unlike(3), 0);
        x.contract(0, 1, 3, 5, 0);
        due("two DESKS of one HOUSE", x.unlike(3), 128);
        x.contract(2, 4, 3, 1, 0);
        due("one of GAIN above 0 and none below", x.unlike(3), 128);
        x.contract(4, 3, 3, 1, 0);
        due("two HOUSES", x.unlike(3), 129);
        x.contract(1, 0, 3, 5, 0);
        due("GAINS of 0", x.unlike(3), 1);
        due("another MORNING", x.unlike(4), 0);
        due("BAD", x.unlike(30), SaidRate.BAD);
        due("BAD", x.unlike(-1), SaidRate.BAD);
    }

    private static void count() {
        promise = 18;
        SaidRate x = withDesks(0, 1, 2, 3, 4, 5);
        for (int i = 0; i < 5; i++) {
            x.contract(0, 1, 0, 1, 0);
        }
        for (int i = 0; i < 4; i++) {
            x.lent(0, 0, 0);
        }
        for (int i = 0; i < 3; i++) {
            x.run(0, 0);
        }
        x.word(0, 1, 0, 0);
        x.word(0, 1, 0, 0);
        edition(x, "c1", 0);
        for (int what = 0; what < 6; what++) {
            due("count(" + what + ")", x.count(what), 6 - what);
        }
        due("BAD", x.count(6), SaidRate.BAD);
        due("BAD", x.count(-1), SaidRate.BAD);
        due("BAD", x.count(MIN), SaidRate.BAD);
    }

    private static void lent() {
        promise = 19;
        SaidRate x = new SaidRate();
        int[][] bad = {{8, 0, 0}, {-1, 0, 0}, {0, 30, 0}, {0, -1, 0}, {0, 0, 1000}, {0, 0, -1}};
        for (int[] c : bad) {
            due("BAD", x.lent(c[0], c[1], c[2]), SaidRate.BAD);
        }
        for (int i = 0; i < 60; i++) {
            due("lent", x.lent(7, 29, i == 59 ? 999 : 0), i);
        }
        due("FULL", x.lent(0, 0, 0), SaidRate.FULL);
        due("BAD ahead of FULL", x.lent(0, 0, 1000), SaidRate.BAD);
        due("the last row counts", x.truth(7, 29, 1), 999);
    }

    private static void truth() {
        promise = 20;
        SaidRate x = new SaidRate();
        due("none LENT", x.truth(0, 3, 0), SaidRate.NONE);
        x.lent(2, 3, 50);
        due("its own: no SPREAD", x.truth(2, 3, 0), 50);
        due("its own: no SPREAD", x.truth(2, 3, 1), 50);
        due("that of all, less SPREAD", x.truth(0, 3, 0), 30);
        due("that of all, and SPREAD", x.truth(0, 3, 1), 70);
        x.lent(2, 3, 40);
        x.lent(2, 3, 45);
        x.lent(5, 3, 980);
        due("its own low", x.truth(2, 3, 0), 40);
        due("its own high", x.truth(2, 3, 1), 50);
        due("low of all", x.truth(0, 3, 0), 20);
        due("held to 999", x.truth(0, 3, 1), 999);
        x.lent(5, 3, 19);
        due("held to 0", x.truth(0, 3, 0), 0);
        due("another MORNING", x.truth(2, 4, 0), SaidRate.NONE);
        edition(x, "s5", 4);
        x.lent(0, 4, 500);
        due("SPREAD by its EDITION", x.truth(1, 4, 0), 495);
        due("SPREAD by its EDITION", x.truth(1, 4, 1), 505);
        due("BAD", x.truth(8, 3, 0), SaidRate.BAD);
        due("BAD", x.truth(0, 30, 0), SaidRate.BAD);
        due("BAD", x.truth(0, 3, 2), SaidRate.BAD);
        due("BAD ahead of NONE", x.truth(0, 9, -1), SaidRate.BAD);
    }

    private static void out() {
        promise = 21;
        SaidRate x = new SaidRate();
        x.say(0, 0, 500);
        due("no TRUE", x.out(0, 0), 0);
        x.lent(1, 0, 520);
        due("at the low end", x.out(0, 0), 0);
        due("SILENT", x.out(1, 0), 0);
        x.say(0, 0, 499);
        due("below", x.out(0, 0), -1);
        x.say(0, 0, 540);
        due("at the high end", x.out(0, 0), 0);
        x.say(0, 0, 541);
        due("above", x.out(0, 0), 1);
        x.lent(0, 0, 541);
        due("its own", x.out(0, 0), 0);
        due("BAD", x.out(8, 0), -11);
        due("BAD", x.out(-1, 0), -11);
        due("BAD", x.out(0, 30), -11);
        due("BAD", x.out(0, -1), -11);
    }

    private static void right() {
        promise = 22;
        SaidRate x = new SaidRate();
        sayAll(x, 0, 100, 200, 300, 400);
        dueFraction("THE RATE, if none LENT", x.right(0, 0), x.right(0, 1), 250, 1);
        x.lent(1, 0, 230);
        x.lent(1, 0, 310);
        // 100 -> 210, 200 -> 230, 300, 400 -> 330
        dueFraction("the nearer ends", x.right(0, 0), x.right(0, 1), 265, 1);
        dueFraction("THE RATE stays", x.rate(0, 0), x.rate(0, 1), 250, 1);
        due("NONE", x.right(1, 0), NO_FRACTION);
        due("NONE", x.right(1, 1), NO_FRACTION);
        due("BAD", x.right(30, 0), BAD_FRACTION);
        due("BAD", x.right(-1, 0), BAD_FRACTION);
        due("BAD ahead of NONE", x.right(1, 2), BAD_FRACTION);
    }

    private static void lost() {
        promise = 23;
        SaidRate x = withDesks(0, 1, 2);
        x.contract(0, 1, 0, 3, 777);
        x.lent(0, 0, 110);
        dueFraction("0 without a RATE", x.lost(0, 0, 0), x.lost(0, 0, 1), 0, 1);
        sayAll(x, 0, 100, 90, 121, 131);
        // THE RATE 110.5; right: 110, 90, 121, 130: 115.5
        dueFraction("3 times 5", x.lost(0, 0, 0), x.lost(0, 0, 1), 15, 1);
        dueFraction("from whom", x.lost(1, 0, 0), x.lost(1, 0, 1), -15, 1);
        dueFraction("no CONTRACT", x.lost(2, 0, 0), x.lost(2, 0, 1), 0, 1);
        x.say(2, 0, 133);
        // THE RATE 115.5; right: 110, 90, 130, 130: 120
        dueFraction("3 times 4.5", x.lost(0, 0, 0), x.lost(0, 0, 1), 27, 2);
        due("BAD", x.lost(3, 0, 0), BAD_FRACTION);
        due("BAD", x.lost(-1, 0, 0), BAD_FRACTION);
        due("BAD", x.lost(0, 30, 0), BAD_FRACTION);
        due("BAD", x.lost(0, 0, 2), BAD_FRACTION);
    }

    private static void lean() {
        promise = 24;
        SaidRate x = withDesks(0, 0, 1);
        for (int morning = 0; morning < 10; morning++) {
            x.lent(0, morning, 500);
            x.say(0, morning, morning < 7 ? 600 : 400);
        }
        due("no GAINS: no MORNINGS", x.lean(0, 0), 0);
        due("no MORNINGS: certain", x.lean(0, 2), 1000);
        due("FEAR without GAINS", x.lean(0, 3), 3);
        for (int morning = 0; morning < 6; morning++) {
            x.contract(0, 2, morning, 5, 0);
        }
        x.contract(2, 1, 6, 1, 0);
        x.contract(2, 1, 7, 1, 0);
        x.contract(1, 2, 8, 1, 0);
        x.contract(0, 1, 9, 1, 0);
        due("MORNINGS; within a HOUSE there is no GAIN", x.lean(0, 0), 9);
        due("WITH", x.lean(0, 1), 7);
        due("CHANCE (36 + 9 + 1) of 512", x.lean(0, 2), 89);
        due("FEAR", x.lean(0, 3), 2);
        due("another HOUSE, SILENT", x.lean(1, 0), 0);
        due("a HOUSE without DESKS", x.lean(7, 2), 1000);
        x.say(0, 0, 500);
        due("not OUT", x.lean(0, 0), 8);
        due("CHANCE (28 + 8 + 1) of 256", x.lean(0, 2), 144);
        due("BAD", x.lean(8, 0), SaidRate.BAD);
        due("BAD", x.lean(-1, 0), SaidRate.BAD);
        due("BAD", x.lean(0, 4), SaidRate.BAD);
        due("BAD", x.lean(0, -1), SaidRate.BAD);
    }

    private static void run() {
        promise = 25;
        SaidRate x = new SaidRate();
        int[][] bad = {{30, 0}, {-1, 0}, {0, 1000}, {0, -1}, {MIN, MAX}};
        for (int[] c : bad) {
            due("BAD", x.run(c[0], c[1]), SaidRate.BAD);
        }
        for (int i = 0; i < 20; i++) {
            due("run", x.run(29, 999), i);
        }
        due("FULL", x.run(0, 0), SaidRate.FULL);
        due("BAD ahead of FULL", x.run(0, 1000), SaidRate.BAD);
    }

    private static void untrue() {
        promise = 26;
        SaidRate x = new SaidRate();
        for (int price = 99; price <= 201; price++) {
            if (price == 102) {
                price = 199;
            }
            x.run(3, price);
        }
        due("none LENT", x.untrue(0), 0);
        x.lent(0, 3, 100);
        x.lent(7, 3, 200);
        x.lent(7, 4, 300);
        int[] want = {1, 0, 0, 0, 0, 1};
        for (int run = 0; run < 6; run++) {
            due("untrue(" + run + ")", x.untrue(run), want[run]);
        }
        due("BAD", x.untrue(6), SaidRate.BAD);
        due("BAD", x.untrue(-1), SaidRate.BAD);
        due("BAD", x.untrue(MAX), SaidRate.BAD);
    }

    private static void backed() {
        promise = 27;
        SaidRate x = new SaidRate();
        x.run(3, 150);
        sayAll(x, 3, 150, 150, 151, 150, -1, 149, 150, 150);
        due("none is OUT", x.backed(0), 0);
        x.lent(0, 3, 100);
        x.lent(1, 3, 150);
        x.lent(6, 3, 160);
        due("its own: 0 above, 1 not, 6 below; others within SPREAD", x.backed(0), 1 + 64);
        due("it is not FALSE, yet BACKED", x.untrue(0), 0);
        x.run(4, 150);
        due("another MORNING", x.backed(1), 0);
        due("BAD", x.backed(2), SaidRate.BAD);
        due("BAD", x.backed(-1), SaidRate.BAD);
    }

    private static void word() {
        promise = 28;
        SaidRate x = withDesks(0, 0, 1);
        int[][] bad = {{0, 0, 0, 0}, {3, 0, 0, 0}, {0, 3, 0, 0}, {-1, 0, 0, 0}, {0, -1, 0, 0}, {0, 1, 30, 0}, {0, 1, -1, 0}, {0, 1, 0, 1000},
            {0, 1, 0, -1}};
        for (int[] c : bad) {
            due("BAD", x.word(c[0], c[1], c[2], c[3]), SaidRate.BAD);
        }
        for (int i = 0; i < 40; i++) {
            due("word", x.word(0, 1 + i % 2, 29, i == 0 ? 999 : 0), i);
        }
        due("FULL", x.word(0, 1, 0, 0), SaidRate.FULL);
        due("BAD ahead of FULL", x.word(1, 1, 0, 0), SaidRate.BAD);
    }

    private static void wall() {
        promise = 29;
        SaidRate x = withDesks(0, 1, 0, 0);
        due("a new WALL", x.wall(0, 2, true), 0);
        due("it is there", x.wall(0, 2, true), 1);
        due("from the other side", x.wall(2, 0, true), 1);
        due("another one", x.wall(0, 3, false), 0);
        due("away", x.wall(2, 0, false), 1);
        due("it is away", x.wall(0, 2, false), 0);
        due("from the other side", x.wall(2, 0, true), 0);
        due("BAD: unlike HOUSES", x.wall(0, 1, true), SaidRate.BAD);
        due("BAD: one DESK", x.wall(0, 0, true), SaidRate.BAD);
        due("BAD: no DESK", x.wall(0, 4, true), SaidRate.BAD);
        due("BAD: no DESK", x.wall(-1, 0, true), SaidRate.BAD);
        due("it stands", x.wall(0, 2, true), 1);
    }

    private static void crossed() {
        promise = 30;
        SaidRate x = withDesks(0, 1, 0, 0);
        x.word(0, 2, 5, 1);
        x.word(2, 0, 5, 2);
        x.word(0, 3, 5, 2);
        x.word(0, 1, 5, 2);
        x.word(0, 2, 6, 1);
        due("no WALLS", x.crossed(5), 0);
        x.wall(2, 0, true);
        due("both ways", x.crossed(5), 2);
        due("another MORNING", x.crossed(6), 1);
        x.wall(0, 3, true);
        due("two WALLS", x.crossed(5), 3);
        x.wall(0, 2, false);
        due("one is away", x.crossed(5), 1);
        due("BAD", x.crossed(30), SaidRate.BAD);
        due("BAD", x.crossed(-1), SaidRate.BAD);
    }

    private static void knew() {
        promise = 31;
        SaidRate x = withDesks(0, 1, 2, 3, 4);
        x.word(2, 3, 0, 7);
        x.word(1, 2, 0, 5);
        x.word(0, 1, 0, 0);
        x.word(3, 4, 0, 7);
        x.word(3, 4, 1, 8);
        due("told at 0", x.knew(0, 0, 0), 3);
        due("by 4", x.knew(0, 0, 4), 3);
        due("by 5", x.knew(0, 0, 5), 7);
        due("not later than its teller was told", x.knew(0, 0, 999), 15);
        due("from 3", x.knew(3, 0, 7), 24);
        due("another MORNING", x.knew(3, 1, 7), 8);
        due("another MORNING", x.knew(3, 1, 8), 24);
        x.word(1, 0, 0, 1);
        due("told what it knew", x.knew(0, 0, 2), 3);
        due("BAD", x.knew(5, 0, 0), SaidRate.BAD);
        due("BAD", x.knew(-1, 0, 0), SaidRate.BAD);
        due("BAD", x.knew(0, 30, 0), SaidRate.BAD);
        due("BAD", x.knew(0, 0, 1000), SaidRate.BAD);
        due("BAD", x.knew(0, 0, -1), SaidRate.BAD);
        SaidRate y = withDesks(0, 0, 0, 0, 0, 0, 0, 0, 0, 0, 0, 0);
        for (int desk = 10; desk >= 0; desk--) {
            y.word(desk, desk + 1, 0, desk);
        }
        due("the longest chain", y.knew(0, 0, 999), 4095);
        y.word(0, 1, 1, 998);
        y.word(1, 2, 1, 999);
        due("by 997", y.knew(0, 1, 997), 1);
        due("by 998", y.knew(0, 1, 998), 3);
        due("the last MINUTE", y.knew(0, 1, 999), 7);
        due("the last MINUTE", y.way(0, 2, 1), 2);
    }

    private static void way() {
        promise = 32;
        SaidRate x = withDesks(0, 1, 2, 3, 4);
        x.word(0, 1, 0, 1);
        x.word(1, 2, 0, 2);
        x.word(2, 3, 0, 3);
        x.word(0, 3, 0, 9);
        x.word(3, 4, 0, 5);
        due("to itself", x.way(4, 4, 0), 0);
        due("the fewest", x.way(0, 3, 0), 1);
        due("the short WAY comes too late", x.way(0, 4, 0), 4);
        due("none back", x.way(4, 0, 0), SaidRate.NONE);
        due("another MORNING", x.way(0, 1, 1), SaidRate.NONE);
        x.word(3, 4, 0, 9);
        due("at one MINUTE is too late", x.way(0, 4, 0), 4);
        x.word(3, 4, 0, 10);
        due("two WORDS", x.way(0, 4, 0), 2);
        due("BAD", x.way(5, 0, 0), SaidRate.BAD);
        due("BAD", x.way(0, 5, 0), SaidRate.BAD);
        due("BAD", x.way(-1, -1, 0), SaidRate.BAD);
        due("BAD", x.way(0, 0, 30), SaidRate.BAD);
        SaidRate y = withDesks(0, 0, 0, 0, 0, 0, 0, 0, 0, 0, 0, 0);
        for (int desk = 10; desk >= 0; desk--) {
            y.word(desk, desk + 1, 0, desk);
        }
        due("the longest WAY", y.way(0, 11, 0), 11);
    }

    private static void owe() {
        promise = 33;
        SaidRate x = withDesks(0, 0, 1);
        due("owe", x.owe(0, 1, 99), 0);
        due("owe", x.owe(0, 1, 3), 99);
        due("the other way", x.owe(1, 0, 4), 0);
        due("BAD n", x.owe(0, 1, 100), SaidRate.BAD);
        due("BAD n", x.owe(0, 1, -1), SaidRate.BAD);
        due("BAD: one DESK", x.owe(2, 2, 1), SaidRate.BAD);
        due("BAD: no DESK", x.owe(3, 0, 1), SaidRate.BAD);
        due("BAD: no DESK", x.owe(0, -1, 1), SaidRate.BAD);
        due("as it was", x.owe(0, 1, 0), 3);
        due("none", x.owe(0, 1, 0), 0);
    }

    private static void net() {
        promise = 34;
        SaidRate x = withDesks(0, 0, 1);
        x.owe(0, 1, 99);
        x.owe(0, 2, 98);
        x.owe(1, 0, 5);
        due("owes", x.net(0), 5 - 197);
        due("is owed", x.net(1), 94);
        due("is owed", x.net(2), 98);
        due("BAD", x.net(3), -10001);
        due("BAD", x.net(-1), -10001);
        due("BAD", x.net(12), -10001);
        due("BAD", x.net(MAX), -10001);
    }

    private static void ringed() {
        promise = 35;
        SaidRate x = withDesks(0, 0, 0, 0, 0, 0, 0, 0, 0, 0, 0, 0);
        due("none", x.ringed(), 0);
        x.owe(3, 2, 1);
        x.owe(2, 7, 1);
        due("a chain", x.ringed(), 0);
        x.owe(7, 3, 1);
        due("a RING", x.ringed(), 8 + 4 + 128);
        x.owe(7, 11, 1);
        x.owe(0, 2, 1);
        due("ones that lead in or out are in none", x.ringed(), 8 + 4 + 128);
        x.owe(11, 10, 99);
        x.owe(10, 11, 99);
        due("another RING", x.ringed(), 8 + 4 + 128 + 1024 + 2048);
        x.owe(2, 7, 0);
        due("one is broken", x.ringed(), 1024 + 2048);
        for (int desk = 0; desk < 12; desk++) {
            x.owe(desk, (desk + 5) % 12, 1);
        }
        due("all", x.ringed(), 4095);
    }

    private static void best() {
        promise = 36;
        SaidRate x = new SaidRate();
        due("no RATE", x.best(1, 0, 29), SaidRate.NONE);
        sayAll(x, 0, 500, 500, 500, 500, 500, 500, 500);
        due("one HOUSE moves nothing if one is thrown away", x.best(1, 0, 0), 1);
        due("two: two", x.best(2, 0, 0), 2);
        due("three: three", x.best(3, 0, 0), 3);
        due("four move it as far by 3 as they can, least by 0", x.best(4, 0, 0), 0);
        sayAll(x, 1, 500, 500, 500);
        due("CUTS 2 and 3 have no RATE", x.best(2, 1, 1), 0);
        due("a MORNING without a RATE counts for nothing", x.best(3, 0, 2), 3);
        sayAll(x, 3, 0, 999);
        due("LEAST as it is", x.best(1, 3, 3), SaidRate.NONE);
        edition(x, "l1", 4);
        x.say(2, 4, 0);
        due("LEAST 1", x.best(4, 4, 4), 0);
        due("BAD", x.best(0, 0, 0), SaidRate.BAD);
        due("BAD", x.best(5, 0, 0), SaidRate.BAD);
        due("BAD", x.best(1, 1, 0), SaidRate.BAD);
        due("BAD", x.best(1, -1, 0), SaidRate.BAD);
        due("BAD", x.best(1, 0, 30), SaidRate.BAD);
        due("BAD", x.best(MIN, MAX, MIN), SaidRate.BAD);
    }

    private static void worst() {
        promise = 37;
        SaidRate x = new SaidRate();
        due("no RATE", x.worst(1, 0, 29, 0), NO_FRACTION);
        due("no RATE", x.worst(1, 0, 29, 1), NO_FRACTION);
        sayAll(x, 0, 500, 500, 500, 500, 500, 500, 500);
        dueFraction("nothing", x.worst(1, 0, 0, 0), x.worst(1, 0, 0, 1), 0, 1);
        dueFraction("four of seven down by CUT 0", x.worst(4, 0, 0, 0), x.worst(4, 0, 0, 1), 2000, 7);
        sayAll(x, 1, 400, 400, 400);
        dueFraction("two of three up by CUT 0", x.worst(2, 1, 1, 0), x.worst(2, 1, 1, 1), 1198, 3);
        dueFraction("the greatest of two MORNINGS", x.worst(2, 0, 1, 0), x.worst(2, 0, 1, 1), 0, 1);
        due("by CUT 2, which the other has not", x.best(2, 0, 1), 2);
        due("BAD", x.worst(0, 0, 0, 0), BAD_FRACTION);
        due("BAD", x.worst(5, 0, 0, 0), BAD_FRACTION);
        due("BAD", x.worst(1, 1, 0, 0), BAD_FRACTION);
        due("BAD", x.worst(1, 0, 30, 0), BAD_FRACTION);
        due("BAD", x.worst(1, 0, 0, 2), BAD_FRACTION);
        due("BAD ahead of NONE", x.worst(1, 9, 9, -1), BAD_FRACTION);
    }

    private static void sheet() {
        promise = 38;
        SaidRate x = new SaidRate();
        for (int sheet = 0; sheet < 4; sheet++) {
            for (int lane = 0; lane < 3; lane++) {
                due("sheet", x.sheet(sheet, lane, 16 - lane), 16 - lane);
            }
        }
        due("no items", x.sheet(3, 2, 0), 0);
        due("a row all the same", x.drop(3), 0);
        x.item(0, 2, 0, 7);
        x.sheet(0, 2, 8);
        due("a new row holds noughts", x.all(0, 0, 2, 0), 8);
        due("a new row holds noughts", x.said(0, 0), 0);
        due("SIZE", x.sheet(0, 0, -1), SaidRate.SIZE);
        due("SIZE", x.sheet(0, 0, MIN), SaidRate.SIZE);
        due("BAD: n", x.sheet(0, 0, 17), SaidRate.BAD);
        due("BAD: n", x.sheet(0, 0, MAX), SaidRate.BAD);
        due("BAD ahead of SIZE", x.sheet(4, 0, -1), SaidRate.BAD);
        due("BAD ahead of SIZE", x.sheet(0, 3, -1), SaidRate.BAD);
        due("BAD", x.sheet(-1, 0, 1), SaidRate.BAD);
        due("BAD", x.sheet(0, -1, 1), SaidRate.BAD);
        due("what was there stays", x.item(0, 2, 7, 1), 1);
    }

    private static void drop() {
        promise = 39;
        SaidRate x = new SaidRate();
        due("nothing at first", x.drop(0), SaidRate.NULL);
        x.sheet(0, 1, 11);
        x.sheet(1, 1, 12);
        due("how many", x.drop(0), 11);
        due("nothing then", x.drop(0), SaidRate.NULL);
        due("items of nothing", x.item(0, 1, 0, 0), SaidRate.NULL);
        due("another SHEET", x.drop(1), 12);
        due("BAD", x.drop(4), SaidRate.BAD);
        due("BAD", x.drop(-1), SaidRate.BAD);
        due("BAD", x.drop(MIN), SaidRate.BAD);
    }

    private static void item() {
        promise = 40;
        SaidRate x = new SaidRate();
        due("NULL", x.item(3, 1, 0, 0), SaidRate.NULL);
        x.sheet(3, 1, 9);
        due("the last", x.item(3, 1, 8, 65536 + 12), 1);
        due("shorts", x.all(0, 3, 1, 1), 8);
        due("the lowest bits", x.said(7, 0), 12);
        x.item(3, 1, 8, 65535);
        due("shorts", x.all(0, 3, 1, 1), 8);
        due("the lowest bits, below 0", x.said(7, 0), -1);
        x.sheet(2, 2, 8);
        x.item(2, 2, 0, 65536 + 12);
        due("ints keep all bits", x.all(0, 2, 2, 0), SaidRate.NOT);
        x.sheet(1, 0, 8);
        x.item(1, 0, 0, 256 + 13);
        due("bytes", x.all(0, 1, 0, 0), 8);
        due("the lowest bits", x.said(0, 0), 13);
        due("INDEX", x.item(3, 1, 9, 0), SaidRate.INDEX);
        due("INDEX", x.item(3, 1, -1, 0), SaidRate.INDEX);
        due("INDEX", x.item(3, 1, MAX, 0), SaidRate.INDEX);
        due("INDEX", x.item(3, 1, MIN, 0), SaidRate.INDEX);
        due("CAST ahead of INDEX", x.item(3, 2, 9, 0), SaidRate.CAST);
        due("BAD ahead of CAST", x.item(3, 3, 9, 0), SaidRate.BAD);
        due("BAD ahead of NULL", x.item(0, -1, 9, 0), SaidRate.BAD);
        due("BAD", x.item(4, 1, 0, 0), SaidRate.BAD);
        due("BAD", x.item(-1, 1, 0, 0), SaidRate.BAD);
    }
}
