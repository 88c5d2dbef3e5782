/** The edges of promises 1 to 12, a test for each of the document's sentences that names one. */
public final class SayingEdgesTest {
    private static final int BAD = SaidRate.BAD, NOT = SaidRate.NOT, FULL = SaidRate.FULL, NONE = SaidRate.NONE;
    private static final int NULL = SaidRate.NULL, CAST = SaidRate.CAST, INDEX = SaidRate.INDEX;
    /** A byte that may stand on THE TAPE, eight times. */
    private static final long EIGHT = 0x6363636363636363L;

    public static void main(String[] args) {
        newObject();
        refusals();
        say();
        said();
        all();
        allRefused();
        type();
        typeRefused();
        rules();
        rulesRefused();
        rulesOfTheMorning();
        leastOfTheMorning();
        clauses();
        faults();
        numbersBeyond();
        rule();
        rate();
        thrown();
        reach();
        move();
        many();
        Edges.finish(1, 12);
    }

    private static void newObject() {
        Edges.test(1, "All are SILENT", () -> {
            SaidRate x = new SaidRate();
            for (int i = 0; i < 240; i++) {
                Edges.due("said", x.said(i % 8, i / 8), -1);
            }
        });
        Edges.test(1, "no DESKS", () -> {
            SaidRate x = new SaidRate();
            Edges.due("count", x.count(0), 0);
            Edges.due("gain of DESK 0", x.gain(0, 0, 0), -10001);
            Edges.due("net of DESK 0", x.net(0), -10001);
            Edges.due("ringed", x.ringed(), 0);
            Edges.due("the first DESK", x.desk(5), 0);
        });
        Edges.test(Edges.TERMS, "An object is used for at most 512 calls after it has been made", () -> {
            SaidRate x = new SaidRate();
            for (int call = 1; call < 512; call++) {
                x.say(call % 8, call / 8 % 30, call);
            }
            Edges.due("the 512th", x.said(511 % 8, 511 / 8 % 30), 511);
        });
        Edges.test(Edges.TERMS, "or is SILENT (-1, at first)", () -> {
            SaidRate x = new SaidRate();
            Edges.due("first and first", x.said(0, 0), -1);
            Edges.due("last and last", x.said(7, 29), -1);
        });
        Edges.test(Edges.TERMS, "CUT (0 .. 3; 1 at first), LEAST (1 .. 8; 3 at first), SPREAD (0 .. 99; 20 at first)", () -> {
            SaidRate x = new SaidRate();
            for (int morning = 0; morning < 30; morning++) {
                Edges.due("CUT", x.rule(morning, 0), 1);
                Edges.due("LEAST", x.rule(morning, 1), 3);
                Edges.due("SPREAD", x.rule(morning, 2), 20);
            }
        });
    }

    private static void refusals() {
        Edges.test(Edges.TERMS, "BAD -1 (a number is not as told, or names nothing), NOT -2 (as told), FULL -3, NONE -4 (as told), CAST -12", () -> {
            Edges.due("BAD", BAD, -1);
            Edges.due("NOT", NOT, -2);
            Edges.due("FULL", FULL, -3);
            Edges.due("NONE", NONE, -4);
            Edges.due("CAST", CAST, -12);
        });
        Edges.test(Edges.TERMS, "NULL -11, INDEX -13, SIZE -14", () -> {
            Edges.due("NULL", NULL, -11);
            Edges.due("INDEX", INDEX, -13);
            Edges.due("SIZE", SaidRate.SIZE, -14);
        });
    }

    private static void say() {
        Edges.test(2, "What a HOUSE SAID (-1: SILENT): what it was.", () -> {
            SaidRate x = new SaidRate();
            Edges.due("the least", x.say(0, 0, 0), -1);
            Edges.due("the greatest", x.say(0, 0, 999), 0);
            Edges.due("SILENT", x.say(0, 0, -1), 999);
            Edges.due("SILENT twice", x.say(0, 0, -1), -1);
            Edges.due("the last HOUSE, the last MORNING", x.say(7, 29, 1), -1);
            Edges.due("the last HOUSE, the last MORNING", x.say(7, 29, 2), 1);
            Edges.due("the one beside it", x.said(6, 29), -1);
            Edges.due("the MORNING ahead", x.said(7, 28), -1);
        });
        Edges.test(Edges.TERMS, "HOUSES 0 .. 7, MORNINGS 0 .. 29", () -> {
            SaidRate x = new SaidRate();
            for (int i = 0; i < 240; i++) {
                x.say(i % 8, i / 8, 999 - i);
            }
            for (int i = 0; i < 240; i++) {
                Edges.due("each has its own", x.said(i % 8, i / 8), 999 - i);
            }
        });
        Edges.test(Edges.TERMS, "each HOUSE has SAID (0 .. 999, in hundredths)", () -> {
            SaidRate x = new SaidRate();
            for (int house = 0; house < 8; house++) {
                Edges.due("the least", x.say(house, 0, 0), -1);
                Edges.due("one more than the greatest", x.say(house, 0, 1000), -11);
                Edges.due("the greatest", x.say(house, 0, 999), 0);
                Edges.due("one less than SILENT", x.say(house, 0, -2), -11);
                Edges.due("SILENT", x.say(house, 0, -1), 999);
            }
        });
        Edges.test(2, "BAD less 10 (-11)", () -> {
            Edges.range("house", 0, 7, -11, (x, v) -> x.say(v, 0, 5));
            Edges.range("morning", 0, 29, -11, (x, v) -> x.say(0, v, 5));
            Edges.range("v", -1, 999, -11, (x, v) -> x.say(0, 0, v));
            Edges.refused("all three", -11, Edges::busy, x -> x.say(8, 30, 1000));
        });
    }

    private static void said() {
        Edges.test(3, "What it SAID.", () -> {
            SaidRate x = Edges.saying(29, 0, 999, -1);
            Edges.due("the least", x.said(0, 29), 0);
            Edges.due("the greatest", x.said(1, 29), 999);
            Edges.due("SILENT", x.said(2, 29), -1);
        });
        Edges.test(3, "BAD less 10", () -> {
            Edges.range("house", 0, 7, -11, (x, v) -> x.said(v, 0));
            Edges.range("morning", 0, 29, -11, (x, v) -> x.said(0, v));
        });
    }

    private static SaidRate withSheet(int lane, int n, int at, int v) {
        SaidRate x = new SaidRate();
        x.sheet(1, lane, n);
        x.item(1, lane, at, v);
        return x;
    }

    private static void all() {
        Edges.test(4, "8 items of a SHEET, taken as a row of a LANE, from one on are what HOUSES SAID on a MORNING: 8.", () -> {
            SaidRate x = new SaidRate();
            x.sheet(3, 2, 16);
            for (int i = 0; i < 16; i++) {
                x.item(3, 2, i, 900 + i);
            }
            Edges.due("the first 8", x.all(0, 3, 2, 0), 8);
            Edges.due("the last 8", x.all(29, 3, 2, 8), 8);
            for (int house = 0; house < 8; house++) {
                Edges.due("of the first 8", x.said(house, 0), 900 + house);
                Edges.due("of the last 8", x.said(house, 29), 908 + house);
            }
            Edges.due("another MORNING", x.said(7, 28), -1);
            x.drop(3);
            Edges.due("they stay without the SHEET", x.said(7, 29), 915);
        });
        Edges.test(4, "from one on are what HOUSES SAID", () -> {
            for (int lane = 0; lane < 3; lane++) {
                SaidRate x = Edges.saying(6, 1, 2, 3, 4, 5, 6, 7, 8);
                x.sheet(0, lane, 8);
                Edges.due("just 8 items of LANE " + lane, x.all(6, 0, lane, 0), 8);
                Edges.due("a nought strikes what it SAID", x.said(7, 6), 0);
                x.item(0, lane, 0, -1);
                x.all(6, 0, lane, 0);
                Edges.due("-1 of LANE " + lane + ": SILENT", x.said(0, 6), -1);
            }
        });
    }

    private static void allRefused() {
        Edges.test(4, "BAD", () -> {
            Edges.range("morning", 0, 29, BAD, (x, v) -> x.all(v, 0, 0, 0));
            Edges.range("sheet", 0, 3, BAD, (x, v) -> x.all(0, v, 0, 0));
            Edges.range("lane", 0, 2, BAD, (x, v) -> x.all(0, 2, v, 0));
        });
        Edges.test(4, "NULL", () -> {
            Edges.due("at first", new SaidRate().all(0, 3, 2, 0), NULL);
            SaidRate x = Edges.busy();
            x.drop(0);
            Edges.due("behind drop()", x.all(0, 0, 0, 0), NULL);
        });
        Edges.test(4, "CAST", () -> {
            for (int pair = 0; pair < 9; pair++) {
                int sheet = pair / 3;
                int lane = pair % 3;
                if (lane != sheet) {
                    Edges.refused("SHEET " + sheet + " as LANE " + lane, CAST, Edges::busy, x -> x.all(0, sheet, lane, 0));
                }
            }
        });
        Edges.test(4, "INDEX", () -> {
            Edges.range("from, of 16 items", 0, 8, INDEX, (x, v) -> x.all(0, 0, 0, v));
            Edges.range("from, of 8 items", 0, 0, INDEX, (x, v) -> x.all(0, 3, 0, v));
            Edges.refused("so high that the eighth wraps around", INDEX, Edges::busy, x -> x.all(0, 0, 0, Edges.MAX - 7));
            Edges.refused("so high that the eighth is the highest", INDEX, Edges::busy, x -> x.all(0, 0, 0, Edges.MAX - 6));
            Edges.due("7 items", withSheet(0, 7, 0, 1).all(0, 1, 0, 0), INDEX);
            Edges.due("no items", withSheet(0, 0, 0, 1).all(0, 1, 0, 0), INDEX);
        });
        Edges.test(4, "NOT: one is not -1 .. 999", () -> {
            for (int i = 0; i < 8; i++) {
                int at = i;
                Edges.due("-1 at " + at, withSheet(1, 8, at, -1).all(0, 1, 1, 0), 8);
                Edges.due("999 at " + at, withSheet(1, 8, at, 999).all(0, 1, 1, 0), 8);
                for (int v : new int[] {-2, 1000, Edges.MIN, Edges.MAX}) {
                    Edges.due(v + " at " + at, withSheet(2, 8, at, v).all(0, 1, 2, 0), NOT);
                }
                Edges.due("-2 of shorts at " + at, withSheet(1, 8, at, -2).all(0, 1, 1, 0), NOT);
                Edges.due("-2 of bytes at " + at, withSheet(0, 8, at, -2).all(0, 1, 0, 0), NOT);
            }
            Edges.due("one ahead of the 8", withSheet(1, 16, 7, 1000).all(0, 1, 1, 8), 8);
            Edges.due("one behind the 8", withSheet(1, 16, 8, 1000).all(0, 1, 1, 0), 8);
        });
        Edges.test(Edges.TERMS, "(NULL, CAST, INDEX, SIZE in this order, behind BAD)", () -> {
            SaidRate x = withSheet(1, 8, 0, 1000);
            Edges.due("BAD ahead of NULL", x.all(30, 0, 0, 0), BAD);
            Edges.due("BAD ahead of CAST", x.all(30, 1, 0, 0), BAD);
            Edges.due("BAD ahead of INDEX", x.all(30, 1, 1, 1), BAD);
            Edges.due("BAD ahead of NOT", x.all(30, 1, 1, 0), BAD);
            Edges.due("NULL ahead of INDEX", x.all(0, 0, 0, -1), NULL);
            Edges.due("CAST ahead of INDEX", x.all(0, 1, 0, -1), CAST);
            Edges.due("CAST ahead of NOT", x.all(0, 1, 0, 0), CAST);
            Edges.due("INDEX ahead of NOT", x.all(0, 1, 1, 1), INDEX);
            Edges.due("NOT", x.all(0, 1, 1, 0), NOT);
        });
        Edges.test(Edges.TERMS, "What is refused changes nothing.", () -> {
            for (int last = 0; last < 2; last++) {
                SaidRate x = Edges.saying(0, 1, 2, 3, 4, 5, 6, 7, 8);
                x.sheet(0, 1, 8);
                x.item(0, 1, last * 7, 1000);
                x.all(0, 0, 1, 0);
                for (int house = 0; house < 8; house++) {
                    Edges.due("said behind NOT", x.said(house, 0), house + 1);
                }
            }
        });
    }

    private static void type() {
        Edges.test(5, "The n lowest bytes (1 .. 8) of w, of these the highest first, come behind THE TAPE: how many it has.", () -> {
            SaidRate x = new SaidRate();
            Edges.due("one", x.type('c', 1), 1);
            Edges.due("eight", x.type(0x333B6C383B733939L, 8), 9);
            Edges.due("rules of c3;l8;s99", x.rules(0), 0);
            Edges.due("CUT", x.rule(0, 0), 3);
            Edges.due("LEAST", x.rule(0, 1), 8);
            Edges.due("SPREAD", x.rule(0, 2), 99);
            Edges.due("THE TAPE is empty behind rules()", x.type('c', 1), 1);
        });
        Edges.test(5, "The n lowest bytes (1 .. 8) of w", () -> {
            for (int n = 1; n < 8; n++) {
                SaidRate x = new SaidRate();
                Edges.due("higher bytes are all ones", x.type(EIGHT | -1L << 8 * n, n), n);
                Edges.due("higher bytes are noughts", x.type(EIGHT & (1L << 8 * n) - 1, n), 2 * n);
            }
        });
    }

    private static void typeRefused() {
        Edges.test(5, "BAD: n, a byte not 32 .. 126", () -> {
            Edges.range("n", 1, 8, BAD, SaidRate::new, (x, v) -> x.type(EIGHT, v));
            Edges.refused("n 0 without bytes", BAD, Edges::busy, x -> x.type(0, 0));
            Edges.refused("n 9 of blanks", BAD, Edges::busy, x -> x.type(0x2020202020202020L, 9));
        });
        Edges.test(5, "a byte not 32 .. 126", () -> {
            for (int i = 0; i < 8; i++) {
                int at = 8 * i;
                long hole = EIGHT & ~(255L << at);
                Edges.due("32 at " + i, new SaidRate().type(hole | 32L << at, 8), 8);
                Edges.due("126 at " + i, new SaidRate().type(hole | 126L << at, 8), 8);
                for (long wrong : new long[] {0, 31, 127, 128, 160, 255}) {
                    Edges.refused(wrong + " at " + i, BAD, Edges::busy, x -> x.type(hole | wrong << at, 8));
                }
            }
            Edges.refused("-1", BAD, Edges::busy, x -> x.type(-1, 1));
            Edges.refused("the least w", BAD, Edges::busy, x -> x.type(Long.MIN_VALUE, 8));
        });
        Edges.test(5, "FULL: 40", () -> {
            SaidRate x = new SaidRate();
            for (int i = 1; i <= 5; i++) {
                Edges.due("eight more", x.type(EIGHT, 8), 8 * i);
            }
            Edges.due("a 41st", x.type('c', 1), FULL);
            Edges.due("40 and 8", x.type(EIGHT, 8), FULL);
            Edges.due("the 40th", Edges.busy().type('c', 1), 40);
            for (int i = 2; i <= 8; i++) {
                int n = i;
                Edges.refused("39 and " + n, FULL, Edges::busy, y -> y.type(EIGHT, n));
            }
            Edges.refused("40 and 1", FULL, Edges::full, y -> y.type('c', 1));
        });
        Edges.test(Edges.TERMS, "of several the first that a call names", () -> {
            Edges.due("BAD n ahead of FULL", Edges.full().type('c', 0), BAD);
            Edges.due("a BAD byte ahead of FULL", Edges.full().type(31, 1), BAD);
            Edges.due("BAD ahead of a FAULT and of FULL", Edges.full().rules(30), BAD);
            Edges.due("a FAULT ahead of FULL", Edges.full().rules(29), -59);
        });
    }

    private static SaidRate typed(String text) {
        SaidRate x = new SaidRate();
        Edges.type(x, text);
        return x;
    }

    private static void rules() {
        Edges.test(6, "THE TAPE, which is empty then, is an EDITION from a MORNING on: its number.", () -> {
            SaidRate x = new SaidRate();
            for (int i = 0; i < 4; i++) {
                Edges.due("an EDITION", Edges.edition(x, "c3", 29), i);
                Edges.due("THE TAPE is empty then", x.type(' ', 1), 1);
            }
        });
        Edges.test(6, "a FAULT", () -> {
            SaidRate x = typed("c3;l8;s99;q");
            Edges.due("a FAULT", x.rules(0), -30);
            Edges.due("no EDITION", x.count(5), 0);
            Edges.due("CLAUSES ahead of it don't hold", x.rule(0, 0) * 10000 + x.rule(0, 1) * 1000 + x.rule(0, 2), 13020);
            Edges.due("THE TAPE is empty then", x.type('s', 1), 1);
            Edges.due("what comes behind it", x.type('7', 1), 2);
            Edges.due("takes nothing from it", x.rules(0), 0);
            Edges.due("takes nothing from it", x.rule(0, 0) * 10000 + x.rule(0, 1) * 1000 + x.rule(0, 2), 13007);
        });
        Edges.test(Edges.TERMS, "by EDITIONS 0 .. 3, TEXTS, as they come", () -> {
            SaidRate x = new SaidRate();
            for (int i = 0; i < 4; i++) {
                Edges.due("EDITION " + i, Edges.edition(x, "c" + (3 - i), 10 * i - i), i);
            }
            for (int morning = 0; morning < 30; morning++) {
                Edges.due("CUT on " + morning, x.rule(morning, 0), 3 - Math.min(3, morning / 9));
            }
            Edges.due("no EDITION 4", Edges.edition(x, "c0", 29), FULL);
        });
        Edges.test(Edges.TERMS, "each in force from a MORNING (no less than that of the one ahead)", () -> {
            SaidRate x = new SaidRate();
            Edges.due("from 0", Edges.edition(x, "c0", 0), 0);
            Edges.due("from 0 again", Edges.edition(x, "c2", 0), 1);
            Edges.due("from 29", Edges.edition(x, "c3", 29), 2);
            Edges.due("from 28", Edges.edition(x, "c0", 28), BAD);
            Edges.due("from 29 again", x.rules(29), 3);
            Edges.due("the later of like ones", x.rule(0, 0), 2);
            Edges.due("the MORNING ahead", x.rule(28, 0), 2);
            Edges.due("the later of like ones", x.rule(29, 0), 0);
        });
        Edges.test(Edges.TERMS, "What is not told is as by the EDITION ahead (at first).", () -> {
            SaidRate x = new SaidRate();
            Edges.edition(x, "l8", 3);
            Edges.edition(x, "s0", 3);
            Edges.edition(x, "c0", 20);
            Edges.due("at first", x.rule(2, 0) * 10000 + x.rule(2, 1) * 1000 + x.rule(2, 2), 13020);
            Edges.due("as by the one ahead, of like ones too", x.rule(3, 0) * 10000 + x.rule(3, 1) * 1000 + x.rule(3, 2), 18000);
            Edges.due("as by both ahead", x.rule(20, 0) * 10000 + x.rule(20, 1) * 1000 + x.rule(20, 2), 8000);
        });
    }

    /** Eight HOUSES SAID the same on MORNINGS 14 and 15; from 15 on CUT is 3, LEAST 8, SPREAD 0. */
    private static SaidRate changing() {
        SaidRate x = new SaidRate();
        Edges.say(x, 14, 0, 10, 20, 30, 40, 50, 150, 900);
        Edges.say(x, 15, 0, 10, 20, 30, 40, 50, 150, 900);
        x.lent(7, 14, 100);
        x.lent(7, 15, 100);
        Edges.edition(x, "c3;l8;s0", 15);
        return x;
    }

    private static void rulesOfTheMorning() {
        Edges.test(Edges.TERMS, "each in force from a MORNING", () -> {
            SaidRate x = changing();
            Edges.dueFraction("rate ahead of it", (y, what) -> y.rate(14, what), x, 50, 1);
            Edges.dueFraction("rate from it on", (y, what) -> y.rate(15, what), x, 35, 1);
            Edges.due("thrown ahead of it", x.thrown(1, 14), 0);
            Edges.due("thrown from it on", x.thrown(1, 15), -1);
            Edges.due("thrown ahead of it, high", x.thrown(6, 14), 0);
            Edges.due("thrown from it on, high", x.thrown(6, 15), 1);
            Edges.dueFraction("reach ahead of it", (y, what) -> y.reach(3, 14, 1, what), x, 195, 1);
            Edges.dueFraction("reach from it on", (y, what) -> y.reach(3, 15, 1, what), x, 45, 1);
            Edges.dueFraction("move ahead of it", (y, what) -> y.move(8, 14, 1, what), x, 145, 1);
            Edges.dueFraction("move from it on", (y, what) -> y.move(8, 15, 1, what), x, 10, 1);
            Edges.dueFraction("move of all ahead of it", (y, what) -> y.move(255, 14, 1, what), x, 949, 1);
            Edges.dueFraction("move of five ahead of it", (y, what) -> y.move(31, 14, 0, what), x, 50, 3);
            Edges.dueFraction("move of five from it on", (y, what) -> y.move(31, 15, 0, what), x, 35, 1);
            Edges.due("many ahead of it", x.many(14, 1, 12), 1);
            Edges.due("many from it on", x.many(15, 1, 12), 3);
            Edges.due("truth ahead of it", x.truth(0, 14, 0), 80);
            Edges.due("truth from it on", x.truth(0, 15, 0), 100);
            Edges.due("out ahead of it", x.out(6, 14) * 10 + x.out(5, 14), 9);
            x.say(5, 14, 80);
            x.say(5, 15, 80);
            Edges.due("out ahead of it, within SPREAD", x.out(5, 14), 0);
            Edges.due("out from it on, no SPREAD", x.out(5, 15), -1);
        });
    }

    private static void leastOfTheMorning() {
        Edges.test(Edges.TERMS, "if fewer than LEAST have SAID", () -> {
            SaidRate x = changing();
            x.say(7, 14, -1);
            x.say(7, 15, -1);
            x.desk(0);
            x.desk(1);
            x.contract(0, 1, 14, 2, 0);
            x.contract(0, 1, 15, 2, 0);
            Edges.dueFraction("rate, LEAST 3", (y, what) -> y.rate(14, what), x, 30, 1);
            Edges.dueFraction("rate, LEAST 8", (y, what) -> y.rate(15, what), x, Edges.NO_FRACTION, Edges.NO_FRACTION);
            Edges.due("thrown, LEAST 3", x.thrown(6, 14), 1);
            Edges.due("thrown, LEAST 8", x.thrown(6, 15), -14);
            Edges.dueFraction("reach, LEAST 8", (y, what) -> y.reach(6, 15, 1, what), x, Edges.NO_FRACTION, Edges.NO_FRACTION);
            Edges.dueFraction("reach of the eighth", (y, what) -> y.reach(7, 15, 1, what), x, 35, 1);
            Edges.dueFraction("move, LEAST 3", (y, what) -> y.move(127, 14, 0, what), x, 30, 1);
            Edges.dueFraction("move, LEAST 8", (y, what) -> y.move(8, 15, 1, what), x, Edges.NO_FRACTION, Edges.NO_FRACTION);
            Edges.due("many, LEAST 3", x.many(14, 0, 1), 2);
            Edges.due("many, LEAST 8", x.many(15, 0, 1), NONE);
            Edges.due("best, LEAST 8", x.best(1, 15, 15), NONE);
            Edges.dueFraction("worst, LEAST 8", (y, what) -> y.worst(1, 15, 29, what), x, Edges.NO_FRACTION, Edges.NO_FRACTION);
            Edges.dueFraction("right, LEAST 8", (y, what) -> y.right(15, what), x, Edges.NO_FRACTION, Edges.NO_FRACTION);
            Edges.dueFraction("paid, LEAST 3", (y, what) -> y.paid(0, 14, what), x, 60, 1);
            Edges.dueFraction("paid, LEAST 8", (y, what) -> y.paid(0, 15, what), x, 0, 1);
            Edges.dueFraction("lost, LEAST 8", (y, what) -> y.lost(0, 15, what), x, 0, 1);
        });
    }

    private static void rulesRefused() {
        Edges.test(6, "BAD (THE TAPE stays)", () -> {
            Edges.range("from", 0, 29, BAD, () -> typed("c3"), (x, v) -> x.rules(v));
            for (int from : new int[] {-1, 30, Edges.MIN, Edges.MAX}) {
                Edges.refused("from " + from, BAD, Edges::busy, x -> x.rules(from));
                SaidRate x = typed("c3;");
                x.rules(from);
                Edges.due("THE TAPE stays", x.type('l', 1), 4);
                Edges.due("THE TAPE stays", x.rules(0), -24);
            }
        });
        Edges.test(6, "also that is ahead of the one ahead", () -> {
            Edges.range("from behind 20", 20, 29, BAD, (x, v) -> x.rules(v));
            SaidRate x = new SaidRate();
            Edges.edition(x, "c3", 1);
            Edges.type(x, "c0");
            Edges.due("0 behind 1", x.rules(0), BAD);
            Edges.due("THE TAPE stays", x.rules(1), 1);
            Edges.due("THE TAPE stays", x.rule(1, 0), 0);
        });
        Edges.test(6, "FULL: 4", () -> {
            SaidRate x = new SaidRate();
            for (int i = 0; i < 4; i++) {
                Edges.due("an EDITION", Edges.edition(x, "c0;l1;s1", 0), i);
            }
            Edges.due("a fifth", Edges.edition(x, "c3;l8;s99", 0), FULL);
            Edges.due("no EDITION", x.count(5), 4);
            Edges.due("RULES stay", x.rule(29, 0) * 10000 + x.rule(29, 1) * 1000 + x.rule(29, 2), 1001);
            Edges.due("THE TAPE is empty then", x.type(' ', 1), 1);
            Edges.due("a FAULT ahead of FULL", x.rules(0), -21);
            Edges.due("BAD ahead of FULL", Edges.edition(x, "c3", -1), BAD);
        });
    }

    private static void clause(String text, int cut, int least, int spread) {
        SaidRate x = typed(text);
        Edges.due("rules of '" + text + "'", x.rules(0), 0);
        Edges.due("CUT of '" + text + "'", x.rule(0, 0), cut);
        Edges.due("LEAST of '" + text + "'", x.rule(0, 1), least);
        Edges.due("SPREAD of '" + text + "'", x.rule(0, 2), spread);
    }

    private static void fault(String text, int place) {
        Edges.due("rules of '" + text + "'", typed(text).rules(0), -20 - place);
    }

    private static void clauses() {
        Edges.test(Edges.TERMS, "1 to 5 CLAUSES with ; between", () -> {
            clause("c3", 3, 3, 20);
            clause("c0;l8", 0, 8, 20);
            clause("c0;l1;s0;c3;l8", 3, 8, 0);
            fault("", 0);
            fault(";", 0);
            fault(";c3", 0);
            fault("c3;", 3);
            fault("c3l8", 2);
        });
        Edges.test(Edges.TERMS, "c, l or s and a number (CUT, LEAST, SPREAD; later ones strike)", () -> {
            clause("c0;c3", 3, 3, 20);
            clause("l8;l1;l5;l7;l2", 1, 2, 20);
            clause("s0;c2;s99;c0", 0, 3, 99);
        });
        Edges.test(Edges.TERMS, "CUT (0 .. 3;", () -> {
            clause("c0", 0, 3, 20);
            clause("c3", 3, 3, 20);
            fault("c4", 1);
        });
        Edges.test(Edges.TERMS, "LEAST (1 .. 8;", () -> {
            clause("l1", 1, 1, 20);
            clause("l8", 1, 8, 20);
            fault("l0", 1);
            fault("l9", 1);
        });
        Edges.test(Edges.TERMS, "SPREAD (0 .. 99;", () -> {
            clause("s0", 1, 3, 0);
            clause("s99", 1, 3, 99);
            fault("s100", 1);
        });
        Edges.test(Edges.TERMS, "bytes 32 count for nothing, but do not stand in a number", () -> {
            clause("  c  3  ;  l  8  ;  s  99  ", 3, 8, 99);
            clause("                                      c3", 3, 3, 20);
            clause("c                                      3", 3, 3, 20);
            fault("s9 9", 3);
            fault("s  9  9", 6);
            fault("l1;s 1 0", 7);
            clause("l1 ;s10 ", 1, 1, 10);
        });
        Edges.test(Edges.TERMS, "a sixth CLAUSE's ; can't", () -> {
            fault("c1;c1;c1;c1;c1;", 14);
            fault("c1;c1;c1;c1;c1;c1", 14);
            fault("c1;c1;c1;c1;c1 ; x", 15);
            fault("c 1;c1;c1;c1;c1;c1;c1", 15);
            fault("c1;c1;c1;c1;x1;c1", 12);
            fault("c1;c1;c1;c1;c4;c1", 13);
        });
    }

    private static void faults() {
        Edges.test(Edges.TERMS, "-20 less the place of the first byte (behind blanks) that can't stand there", () -> {
            fault("x", 0);
            fault("   x", 3);
            fault("C1", 0);
            fault("3", 0);
            fault("cx", 1);
            fault("c   x", 4);
            fault("cc3", 1);
            fault("c;", 1);
            fault("c-1", 1);
            fault("c+1", 1);
            fault("c1x", 2);
            fault("c1  x", 4);
            fault("c1c2", 2);
            fault("c1.5", 2);
            fault("c1,l2", 2);
            fault("c1:l2", 2);
            fault("c/", 1);
            fault("c1;x", 3);
            fault("c1;;l2", 3);
            fault("c1;  x;y", 5);
            fault("~", 0);
            fault("c1;l2;s3                               x", 39);
        });
        Edges.test(Edges.TERMS, "(the end: how many bytes there are)", () -> {
            fault("", 0);
            fault(" ", 1);
            fault("                                        ", 40);
            fault("c", 1);
            fault("c ", 2);
            fault("s                                       ", 40);
            fault("c1;", 3);
            fault("c1;   ", 6);
            fault("c1;l2;s3;c2;                            ", 40);
        });
    }

    private static void numbersBeyond() {
        Edges.test(Edges.TERMS, "of a number beyond its first byte", () -> {
            fault("c4", 1);
            fault("c   4", 4);
            fault("c10", 1);
            fault("c4x", 1);
            fault("c4 4", 1);
            fault("l00", 1);
            fault("l10", 1);
            fault("s999", 1);
            fault("s100;x", 1);
            fault("c1;l8;s100", 7);
            fault("c1;l8; s 100", 9);
        });
        Edges.test(Edges.TERMS, "a number (CUT, LEAST, SPREAD", () -> {
            fault("c256", 1);
            fault("c65536", 1);
            fault("c4294967296", 1);
            fault("l4294967297", 1);
            fault("s4294967306", 1);
            fault("c18446744073709551616", 1);
            fault("l18446744073709551617", 1);
            fault("s18446744073709551626;c1", 1);
            fault("s99999999999999999999999999999999999999", 1);
            clause("c00000000000000000000000000000000000003", 3, 3, 20);
            clause("l08", 1, 8, 20);
            clause("s099", 1, 3, 99);
        });
    }

    private static void rule() {
        Edges.test(7, "CUT (0), LEAST (1), SPREAD (2) on a MORNING.", () -> {
            SaidRate x = new SaidRate();
            Edges.edition(x, "c3;l8;s99", 29);
            for (int what = 0; what < 3; what++) {
                Edges.due("the MORNING ahead", x.rule(28, what), new int[] {1, 3, 20}[what]);
                Edges.due("the MORNING itself", x.rule(29, what), new int[] {3, 8, 99}[what]);
            }
        });
        Edges.test(7, "BAD", () -> {
            Edges.range("morning", 0, 29, BAD, (x, v) -> x.rule(v, 0));
            Edges.range("what", 0, 2, BAD, (x, v) -> x.rule(0, v));
        });
    }

    private static void rate() {
        Edges.test(8, "BAD", () -> {
            Edges.range("morning, above", 0, 29, Edges.BAD_FRACTION, (x, v) -> x.rate(v, 0));
            Edges.range("morning, below", 0, 29, Edges.BAD_FRACTION, (x, v) -> x.rate(v, 1));
            Edges.range("what", 0, 1, Edges.BAD_FRACTION, (x, v) -> x.rate(0, v));
            Edges.due("BAD ahead of NONE", new SaidRate().rate(0, 2), Edges.BAD_FRACTION);
        });
        Edges.test(8, "NONE", () -> {
            Edges.dueFraction("at first", (x, what) -> x.rate(29, what), new SaidRate(), Edges.NO_FRACTION, Edges.NO_FRACTION);
        });
        Edges.test(Edges.TERMS, "There is none, if fewer than LEAST have SAID, or nothing is left.", () -> {
            for (int least = 1; least <= 8; least++) {
                SaidRate x = Edges.ruled("c0;l" + least);
                for (int house = 0; house < 8; house++) {
                    long want = house < least ? Edges.NO_FRACTION : 500;
                    Edges.due(house + " have SAID, LEAST " + least, x.rate(0, 0), want);
                    x.say(7 - house, 0, 500);
                }
                Edges.due("all have SAID, LEAST " + least, x.rate(0, 0), 500);
            }
        });
        Edges.test(Edges.TERMS, "or nothing is left", () -> {
            for (int cut = 0; cut <= 3; cut++) {
                SaidRate x = Edges.ruled("l1;c" + cut);
                for (int house = 0; house < 8; house++) {
                    long want = house <= 2 * cut ? Edges.NO_FRACTION : 7;
                    Edges.due(house + " have SAID, CUT " + cut, x.rate(0, 0), want);
                    x.say(house, 0, 7);
                }
                x.say(0, 0, -1);
                Edges.due("7 have SAID, CUT " + cut, x.rate(0, 0), 7);
            }
        });
        Edges.test(Edges.TERMS, "Fractions are told above (0) and below (1), below above 0, in lowest terms", () -> {
            Edges.dueFraction("nought", (x, what) -> x.rate(0, what), Edges.saying(0, 0, 0, 0, 0), 0, 1);
            Edges.dueFraction("the greatest", (x, what) -> x.rate(0, what), Edges.saying(0, 999, 999, 999, 999), 999, 1);
            Edges.dueFraction("1 of 6", (x, what) -> x.rate(0, what), Edges.saying(0, 0, 0, 0, 0, 0, 0, 1, 1), 1, 6);
            Edges.dueFraction("3 of 6", (x, what) -> x.rate(0, what), Edges.saying(0, 0, 0, 0, 0, 1, 1, 1, 1), 1, 2);
            Edges.dueFraction("5993 of 6", (x, what) -> x.rate(0, what), Edges.saying(0, 0, 998, 999, 999, 999, 999, 999, 999), 5993, 6);
        });
        Edges.test(Edges.TERMS, "the mean of what is left", () -> {
            int[][] means = {{255, 8}, {21, 1}, {15, 1}, {12, 1}};
            for (int cut = 0; cut <= 3; cut++) {
                SaidRate x = Edges.ruled("c" + cut);
                Edges.say(x, 29, 128, 1, 64, 2, 32, 4, 16, 8);
                Edges.dueFraction("of eight, CUT " + cut, (y, what) -> y.rate(29, what), x, means[cut][0], means[cut][1]);
            }
            SaidRate x = Edges.ruled("c3");
            Edges.say(x, 29, 128, 1, 64, 2, 32, 4, 16, -1);
            Edges.dueFraction("one is left", (y, what) -> y.rate(29, what), x, 16, 1);
        });
        Edges.test(Edges.TERMS, "refused ones less 2^40 (BAD: -1099511627777), both of them", () -> {
            SaidRate x = new SaidRate();
            Edges.due("BAD", x.rate(30, 0), -1099511627777L);
            Edges.due("BAD", x.rate(30, 1), -1099511627777L);
            Edges.due("NONE", x.rate(0, 0), -1099511627780L);
            Edges.due("NONE", x.rate(0, 1), -1099511627780L);
        });
    }

    private static void dueThrown(String what, SaidRate x, int... want) {
        for (int house = 0; house < want.length; house++) {
            Edges.due(what + ", HOUSE " + house, x.thrown(house, 0), want[house]);
        }
    }

    private static void thrown() {
        Edges.test(9, "-1 as one of the lowest, 1 of the highest, 0 not", () -> {
            dueThrown("CUT 1 of 3", Edges.saying(0, 999, 0, 500), 1, -1, 0);
            SaidRate x = Edges.ruled("c3");
            Edges.say(x, 0, 7, 6, 5, 4, 3, 2, 1, -1);
            dueThrown("CUT 3 of 7", x, 1, 1, 1, 0, -1, -1, -1, -12);
            x = Edges.ruled("c0");
            Edges.say(x, 0, 999, 0, 500);
            dueThrown("CUT 0", x, 0, 0, 0);
        });
        Edges.test(Edges.TERMS, "in order (of like ones by HOUSES), the first and last CUT ones are thrown away", () -> {
            SaidRate x = Edges.ruled("c3");
            Edges.say(x, 0, 5, 5, 5, 5, 5, 5, 5, 5);
            dueThrown("all are like", x, -1, -1, -1, 0, 0, 1, 1, 1);
            dueThrown("like ones at both ends", Edges.saying(0, 9, 1, 9, 1, 9, 1), 0, -1, 0, 0, 1, 0);
            dueThrown("SILENT ones between", Edges.saying(0, -1, 5, -1, 5, 5, -1), -12, -1, -12, 0, 1, -12);
        });
        Edges.test(9, "BAD less 10", () -> {
            Edges.range("house", 0, 7, -11, (x, v) -> x.thrown(v, 0));
            Edges.range("morning", 0, 29, -11, (x, v) -> x.thrown(0, v));
        });
        Edges.test(9, "NOT less that (-12): SILENT", () -> {
            Edges.due("SILENT", Edges.saying(0, 1, 2, 3).thrown(3, 0), -12);
            Edges.due("SILENT ahead of no RATE", new SaidRate().thrown(0, 0), -12);
        });
        Edges.test(9, "NONE less that (-14): no RATE", () -> {
            Edges.due("fewer than LEAST", Edges.saying(0, 1, 2).thrown(0, 0), -14);
            SaidRate x = Edges.ruled("c1;l1");
            Edges.say(x, 0, 0, 999);
            dueThrown("nothing left", x, -14, -14, -12);
        });
    }

    private static void reach() {
        Edges.test(10, "by 0 (end 0), by 999 (1)", () -> {
            SaidRate x = Edges.saying(0, 400, 500, 600);
            Edges.dueFraction("down", (y, what) -> y.reach(2, 0, 0, what), x, 400, 1);
            Edges.dueFraction("up", (y, what) -> y.reach(0, 0, 1, what), x, 600, 1);
            x = Edges.ruled("c0;l1");
            Edges.dueFraction("one alone down", (y, what) -> y.reach(7, 29, 0, what), x, 0, 1);
            Edges.dueFraction("one alone up", (y, what) -> y.reach(7, 29, 1, what), x, 999, 1);
        });
        Edges.test(Edges.TERMS, "if it said 0, and if it said 999 (others as they do)", () -> {
            SaidRate x = Edges.saying(0, 0, 999, 500, 501);
            Edges.dueFraction("0 that said 0", (y, what) -> y.reach(0, 0, 0, what), x, 1001, 2);
            Edges.dueFraction("999 that said 999", (y, what) -> y.reach(1, 0, 1, what), x, 1001, 2);
            Edges.due("it stays as it was", x.said(0, 0), 0);
            Edges.dueFraction("THE RATE stays", (y, what) -> y.rate(0, what), x, 1001, 2);
            SaidRate all = Edges.ruled("c0");
            Edges.say(all, 29, 101, 202, 303, 404, 505, 606, 707, 808);
            for (int house = 0; house < 8; house++) {
                int others = 3636 - 101 * (house + 1);
                long down = all.reach(house, 29, 0, 0) * 8;
                Edges.due("down, of eight, HOUSE " + house, down, others * all.reach(house, 29, 0, 1));
                long up = all.reach(house, 29, 1, 0) * 8;
                Edges.due("up, of eight, HOUSE " + house, up, (others + 999) * all.reach(house, 29, 1, 1));
            }
        });
        Edges.test(10, "BAD", () -> {
            Edges.range("house", 0, 7, Edges.BAD_FRACTION, (x, v) -> x.reach(v, 0, 0, 0));
            Edges.range("morning", 0, 29, Edges.BAD_FRACTION, (x, v) -> x.reach(0, v, 1, 1));
            Edges.range("end", 0, 1, Edges.BAD_FRACTION, (x, v) -> x.reach(0, 0, v, 0));
            Edges.range("what", 0, 1, Edges.BAD_FRACTION, (x, v) -> x.reach(0, 0, 0, v));
            Edges.due("BAD ahead of NONE", new SaidRate().reach(0, 0, 0, 2), Edges.BAD_FRACTION);
        });
        Edges.test(10, "NONE: no RATE then", () -> {
            SaidRate x = Edges.saying(0, 1, 2);
            Edges.dueFraction("one of two", (y, what) -> y.reach(0, 0, 0, what), x, Edges.NO_FRACTION, Edges.NO_FRACTION);
            Edges.dueFraction("a third, which was SILENT", (y, what) -> y.reach(2, 0, 1, what), x, 2, 1);
            SaidRate y = Edges.ruled("c1;l1");
            Edges.say(y, 0, 5);
            Edges.due("nothing is left then", y.reach(1, 0, 0, 0), Edges.NO_FRACTION);
        });
    }

    private static void move() {
        Edges.test(11, "MOVE of a group (1 .. 255) down (0), up (1).", () -> {
            SaidRate x = Edges.saying(0, 500, 500, 500, 500, 500, 500, 500, 500);
            Edges.dueFraction("the first alone", (y, what) -> y.move(1, 0, 0, what), x, 0, 1);
            Edges.dueFraction("all down", (y, what) -> y.move(255, 0, 0, what), x, 500, 1);
            Edges.dueFraction("all up", (y, what) -> y.move(255, 0, 1, what), x, 499, 1);
            Edges.dueFraction("the last two down", (y, what) -> y.move(192, 0, 0, what), x, 250, 3);
            Edges.dueFraction("the last two up", (y, what) -> y.move(192, 0, 1, what), x, 499, 6);
        });
        Edges.test(Edges.TERMS, "if all of them (that have SAID) said 0; up: what it were if they said 999, less THE RATE", () -> {
            SaidRate x = Edges.saying(0, 100, 200, 300);
            Edges.dueFraction("SILENT ones alone", (y, what) -> y.move(248, 0, 1, what), x, 0, 1);
            Edges.dueFraction("SILENT ones with another", (y, what) -> y.move(249, 0, 1, what), x, 100, 1);
            Edges.due("a SILENT one brings no RATE", Edges.saying(0, 1, 2).move(4, 0, 1, 0), Edges.NO_FRACTION);
            SaidRate ends = Edges.saying(0, 0, 0, 0);
            Edges.dueFraction("down from 0", (y, what) -> y.move(255, 0, 0, what), ends, 0, 1);
            Edges.dueFraction("up from 0", (y, what) -> y.move(255, 0, 1, what), ends, 999, 1);
        });
        Edges.test(11, "BAD", () -> {
            Edges.range("group", 1, 255, Edges.BAD_FRACTION, (x, v) -> x.move(v, 0, 0, 0));
            Edges.range("morning", 0, 29, Edges.BAD_FRACTION, (x, v) -> x.move(1, v, 0, 0));
            Edges.range("way", 0, 1, Edges.BAD_FRACTION, (x, v) -> x.move(1, 0, v, 0));
            Edges.range("what", 0, 1, Edges.BAD_FRACTION, (x, v) -> x.move(1, 0, 0, v));
            Edges.due("BAD ahead of NONE", new SaidRate().move(0, 0, 0, 0), Edges.BAD_FRACTION);
        });
        Edges.test(11, "NONE: no RATE", () -> {
            for (int way = 0; way < 2; way++) {
                int w = way;
                Edges.dueFraction("two have SAID", (x, what) -> x.move(255, 0, w, what), Edges.saying(0, 1, 2), Edges.NO_FRACTION, Edges.NO_FRACTION);
            }
        });
    }

    private static void many() {
        Edges.test(12, "for v hundredths (1 .. 999) down (0), up (1)", () -> {
            SaidRate x = Edges.saying(0, 500, 500, 500, 500);
            Edges.due("1 down", x.many(0, 0, 1), 3);
            Edges.due("1 up", x.many(0, 1, 1), 3);
            Edges.due("999 up from 0", Edges.saying(29, 0, 0, 0).many(29, 1, 999), 3);
            Edges.due("999 down from 999", Edges.saying(29, 999, 999, 999).many(29, 0, 999), 3);
        });
        Edges.test(Edges.TERMS, "whose MOVE is no less than a told number (as it is SAID)", () -> {
            SaidRate x = Edges.saying(0, 500, 500, 500, 500);
            Edges.due("just so", x.many(0, 0, 250), 3);
            Edges.due("one more", x.many(0, 0, 251), 7);
            Edges.due("just so", x.many(0, 0, 500), 7);
            Edges.due("249.5 is no less than 249", x.many(0, 1, 249), 3);
            Edges.due("249.5 is less than 250", x.many(0, 1, 250), 7);
        });
        Edges.test(Edges.TERMS, "the fewest HOUSES that have SAID", () -> {
            SaidRate x = Edges.saying(0, -1, -1, 500, -1, 500, -1, 500, 500);
            Edges.due("SILENT ones are not among them", x.many(0, 0, 250), 4 + 16);
            Edges.due("SILENT ones are not among them", x.many(0, 0, 500), 4 + 16 + 64);
            SaidRate high = Edges.saying(0, 100, 100, 100, 900, 900);
            Edges.due("one of high bits ahead of two of low ones", high.many(0, 0, 33), 8);
            Edges.due("one of high bits ahead of three of low ones", high.many(0, 0, 66), 8);
            Edges.due("one, and no others of low bits", high.many(0, 0, 260), 8);
            Edges.due("two ahead of three", high.many(0, 0, 300), 9);
            SaidRate sums = Edges.ruled("c0");
            Edges.say(sums, 0, 100, 100, 100, 140, 170);
            Edges.due("two of high bits ahead of three of low ones", sums.many(0, 0, 60), 8 + 16);
            SaidRate all = Edges.ruled("c0");
            Edges.say(all, 0, 999, 999, 999, 999, 999, 999, 999, 999);
            Edges.due("all of them", all.many(0, 0, 999), 255);
        });
        Edges.test(Edges.TERMS, "of like ones the least bits", () -> {
            SaidRate x = Edges.ruled("c0");
            Edges.say(x, 0, 10, 10, 10, 10, 10, 10, 10, 800);
            Edges.due("of seven like ones", x.many(0, 1, 123), 1);
            Edges.due("the last alone could", x.many(0, 0, 100), 128);
            Edges.due("with the first of seven like ones", x.many(0, 0, 101), 129);
        });
        Edges.test(12, "BAD", () -> {
            Edges.range("morning", 0, 29, BAD, (x, v) -> x.many(v, 0, 1));
            Edges.range("way", 0, 1, BAD, (x, v) -> x.many(0, v, 1));
            Edges.range("v", 1, 999, BAD, (x, v) -> x.many(0, 0, v));
            Edges.due("BAD ahead of NONE", new SaidRate().many(0, 0, 0), BAD);
        });
        Edges.test(12, "NONE: no RATE, or none could", () -> {
            Edges.due("no RATE", Edges.saying(0, 500, 500).many(0, 0, 1), NONE);
            SaidRate x = Edges.saying(0, 500, 500, 500);
            Edges.due("down by 500", x.many(0, 0, 500), 3);
            Edges.due("down by 501", x.many(0, 0, 501), NONE);
            Edges.due("up by 499", x.many(0, 1, 499), 3);
            Edges.due("up by 500", x.many(0, 1, 500), NONE);
            Edges.due("down from 0", Edges.saying(0, 0, 0, 0).many(0, 0, 1), NONE);
            Edges.due("up from 999", Edges.saying(0, 999, 999, 999).many(0, 1, 1), NONE);
        });
    }
}
