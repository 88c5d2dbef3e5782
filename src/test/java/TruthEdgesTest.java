/** The edges of promises 19 to 27, a test for each of the document's sentences that names one. */
public final class TruthEdgesTest {
    private static final int BAD = SaidRate.BAD, FULL = SaidRate.FULL, NONE = SaidRate.NONE;

    public static void main(String[] args) {
        lent();
        truth();
        out();
        right();
        lost();
        lean();
        leanRows();
        chance();
        run();
        untrue();
        backed();
        Edges.finish(19, 27);
    }

    private static void lent() {
        Edges.test(19, "A LENT row: its number.", () -> {
            SaidRate x = new SaidRate();
            for (int i = 0; i < 60; i++) {
                Edges.due("alike", x.lent(7, 29, 999), i);
            }
        });
        Edges.test(Edges.TERMS, "LENT rows 0 .. 59, as they come", () -> {
            SaidRate x = new SaidRate();
            for (int i = 0; i < 60; i++) {
                Edges.due("row " + i, x.lent(i / 30, i % 30, 900 - i), i);
            }
            for (int i = 0; i < 60; i++) {
                Edges.due("low end by row " + i, x.truth(i / 30, i % 30, 0), 900 - i);
                Edges.due("high end by row " + i, x.truth(i / 30, i % 30, 1), 900 - i);
            }
            Edges.due("no row 60", x.lent(0, 0, 0), FULL);
        });
        Edges.test(19, "BAD", () -> {
            Edges.range("house", 0, 7, BAD, (x, v) -> x.lent(v, 0, 0));
            Edges.range("morning", 0, 29, BAD, (x, v) -> x.lent(0, v, 0));
            Edges.refused("BAD ahead of FULL", BAD, Edges::full, x -> x.lent(8, 0, 0));
        });
        Edges.test(Edges.TERMS, "a HOUSE, a MORNING, at what (0 .. 999)", () -> {
            Edges.range("at", 0, 999, BAD, (x, v) -> x.lent(0, 0, v));
            Edges.refused("BAD ahead of FULL", BAD, Edges::full, x -> x.lent(0, 0, 1000));
        });
        Edges.test(19, "FULL: 60", () -> {
            Edges.due("the 60th", Edges.busy().lent(0, 0, 0), 59);
            Edges.refused("a 61st", FULL, Edges::full, x -> x.lent(0, 0, 0));
        });
    }

    private static SaidRate lending(int... at) {
        SaidRate x = new SaidRate();
        for (int v : at) {
            x.lent(3, 0, v);
        }
        return x;
    }

    private static void dueTrue(String what, SaidRate x, int house, int low, int high) {
        Edges.due(what + ", low end", x.truth(house, 0, 0), low);
        Edges.due(what + ", high end", x.truth(house, 0, 1), high);
    }

    private static void truth() {
        Edges.test(20, "TRUE: its low end (0), high end (1).", () -> {
            dueTrue("its own", lending(500, 400, 600), 3, 400, 600);
            dueTrue("that of all", lending(500, 400, 600), 0, 380, 620);
        });
        Edges.test(Edges.TERMS, "the least to the greatest at which it LENT then", () -> {
            dueTrue("0 and 999", lending(999, 0), 3, 0, 999);
            dueTrue("one row: no SPREAD", lending(0), 3, 0, 0);
            dueTrue("one row: no SPREAD", lending(999), 3, 999, 999);
            SaidRate x = lending(500);
            x.lent(2, 0, 100);
            x.lent(3, 1, 900);
            dueTrue("of another HOUSE, of another MORNING", x, 3, 500, 500);
        });
        Edges.test(Edges.TERMS, "without such: that of all LENT then, SPREAD more to both sides", () -> {
            SaidRate x = lending(500);
            x.lent(7, 0, 700);
            x.lent(0, 1, 100);
            dueTrue("LENT by two others", x, 0, 480, 720);
            x.lent(0, 0, 600);
            dueTrue("LENT by itself: no SPREAD", x, 0, 600, 600);
            SaidRate y = new SaidRate();
            Edges.edition(y, "s0", 1);
            y.lent(3, 0, 500);
            y.lent(3, 1, 500);
            dueTrue("SPREAD of the MORNING", y, 0, 480, 520);
            Edges.due("SPREAD of the MORNING behind it", y.truth(0, 1, 0), 500);
        });
        Edges.test(Edges.TERMS, "SPREAD more to both sides (held to 0 .. 999)", () -> {
            dueTrue("just 0", lending(20), 0, 0, 40);
            dueTrue("one above 0", lending(21), 0, 1, 41);
            dueTrue("held to 0", lending(19), 0, 0, 39);
            dueTrue("just 999", lending(979), 0, 959, 999);
            dueTrue("one below 999", lending(978), 0, 958, 998);
            dueTrue("held to 999", lending(980), 0, 960, 999);
            dueTrue("held to both", lending(0, 999), 0, 0, 999);
            SaidRate widest = Edges.ruled("s99");
            widest.lent(3, 0, 500);
            dueTrue("the greatest SPREAD", widest, 0, 401, 599);
            SaidRate none = Edges.ruled("s0");
            none.lent(3, 0, 500);
            dueTrue("no SPREAD", none, 0, 500, 500);
        });
        Edges.test(20, "BAD", () -> {
            Edges.range("house", 0, 7, BAD, (x, v) -> x.truth(v, 0, 0));
            Edges.range("morning", 0, 29, BAD, (x, v) -> x.truth(0, v, 0));
            Edges.range("end", 0, 1, BAD, (x, v) -> x.truth(0, 0, v));
            Edges.due("BAD ahead of NONE", new SaidRate().truth(0, 0, 2), BAD);
        });
        Edges.test(20, "NONE", () -> Edges.due("at first", new SaidRate().truth(7, 29, 1), NONE));
        Edges.test(Edges.TERMS, "none without any", () -> {
            Edges.due("one LENT the MORNING ahead", lending(5).truth(3, 1, 0), NONE);
            Edges.due("one LENT the MORNING ahead", lending(5).truth(3, 1, 1), NONE);
        });
    }

    private static void dueOut(SaidRate x, int house, int said, int want) {
        x.say(house, 0, said);
        Edges.due("HOUSE " + house + " SAID " + said, x.out(house, 0), want);
    }

    private static void out() {
        Edges.test(Edges.TERMS, "1, if what it SAID is above that, -1 below", () -> {
            SaidRate x = lending(400, 600);
            dueOut(x, 3, 399, -1);
            dueOut(x, 3, 400, 0);
            dueOut(x, 3, 600, 0);
            dueOut(x, 3, 601, 1);
            dueOut(x, 0, 379, -1);
            dueOut(x, 0, 380, 0);
            dueOut(x, 0, 620, 0);
            dueOut(x, 0, 621, 1);
            dueOut(x, 0, 0, -1);
            dueOut(x, 0, 999, 1);
        });
        Edges.test(Edges.TERMS, "else (SILENT, no TRUE) 0", () -> {
            SaidRate x = lending(500);
            dueOut(x, 3, -1, 0);
            dueOut(x, 0, -1, 0);
            dueOut(new SaidRate(), 0, 0, 0);
            dueOut(new SaidRate(), 0, 999, 0);
            Edges.due("SILENT and no TRUE", new SaidRate().out(0, 0), 0);
        });
        Edges.test(21, "BAD less 10", () -> {
            Edges.range("house", 0, 7, -11, (x, v) -> x.out(v, 0));
            Edges.range("morning", 0, 29, -11, (x, v) -> x.out(0, v));
        });
    }

    private static void right() {
        Edges.test(Edges.TERMS, "with each SAID that is OUT put to the nearer end of TRUE", () -> {
            SaidRate x = Edges.ruled("c0;l1;s0");
            x.lent(0, 0, 100);
            x.lent(0, 0, 900);
            x.say(0, 0, 99);
            Edges.dueFraction("below", (y, what) -> y.right(0, what), x, 100, 1);
            x.say(0, 0, 901);
            Edges.dueFraction("above", (y, what) -> y.right(0, what), x, 900, 1);
            x.say(0, 0, 0);
            Edges.dueFraction("far below", (y, what) -> y.right(0, what), x, 100, 1);
            x.say(0, 0, 899);
            Edges.dueFraction("not OUT", (y, what) -> y.right(0, what), x, 899, 1);
            x.say(1, 0, 950);
            Edges.dueFraction("two, one of them OUT", (y, what) -> y.right(0, what), x, 1799, 2);
        });
        Edges.test(22, "THE RIGHT RATE.", () -> {
            SaidRate x = Edges.saying(29, 0, 10, 999);
            Edges.dueFraction("none LENT", (y, what) -> y.right(29, what), x, 10, 1);
            x.lent(7, 29, 500);
            Edges.dueFraction("all are OUT", (y, what) -> y.right(29, what), x, 480, 1);
            Edges.due("what was SAID stays", x.said(1, 29), 10);
            Edges.dueFraction("THE RATE stays", (y, what) -> y.rate(29, what), x, 10, 1);
        });
        Edges.test(22, "BAD", () -> {
            Edges.range("morning", 0, 29, Edges.BAD_FRACTION, (x, v) -> x.right(v, 0));
            Edges.range("what", 0, 1, Edges.BAD_FRACTION, (x, v) -> x.right(0, v));
            Edges.due("BAD ahead of NONE", new SaidRate().right(0, 2), Edges.BAD_FRACTION);
        });
        Edges.test(22, "NONE", () -> {
            SaidRate x = Edges.saying(0, 1, 2);
            x.lent(2, 0, 500);
            Edges.dueFraction("LENT, but not SAID", (y, what) -> y.right(0, what), x, Edges.NO_FRACTION, Edges.NO_FRACTION);
        });
    }

    private static void lost() {
        Edges.test(Edges.TERMS, "what it is PAID by THE RIGHT RATE less what it is PAID by THE RATE", () -> {
            SaidRate x = Edges.withDesks(0, 1, 2);
            Edges.say(x, 29, 0, 0, 0);
            x.lent(0, 29, 999);
            x.lent(1, 29, 999);
            x.lent(2, 29, 999);
            for (int i = 0; i < 24; i++) {
                x.contract(0, 1, 29, 99, 999);
            }
            Edges.dueFraction("the most", (y, what) -> y.lost(0, 29, what), x, 2373624, 1);
            Edges.dueFraction("from whom", (y, what) -> y.lost(1, 29, what), x, -2373624, 1);
            Edges.dueFraction("no CONTRACT", (y, what) -> y.lost(2, 29, what), x, 0, 1);
            SaidRate like = Edges.withDesks(7, 7, 1);
            Edges.say(like, 0, 0, 0, 0);
            for (int house = 0; house < 3; house++) {
                like.lent(house, 0, 10);
            }
            like.contract(0, 2, 0, 5, 0);
            like.contract(2, 1, 0, 3, 0);
            Edges.dueFraction("of two DESKS of a HOUSE, one", (y, what) -> y.lost(0, 0, what), like, 50, 1);
            Edges.dueFraction("of two DESKS of a HOUSE, the other", (y, what) -> y.lost(1, 0, what), like, -30, 1);
            Edges.dueFraction("of both of them", (y, what) -> y.lost(2, 0, what), like, -20, 1);
        });
        Edges.test(23, "LOST by a DESK on a MORNING (0 without a RATE).", () -> {
            SaidRate x = Edges.withDesks(0, 1);
            x.contract(0, 1, 0, 99, 999);
            x.lent(0, 0, 500);
            Edges.say(x, 0, 0, 0);
            Edges.dueFraction("no RATE", (y, what) -> y.lost(0, 0, what), x, 0, 1);
            Edges.dueFraction("no RATE, from whom", (y, what) -> y.lost(1, 0, what), x, 0, 1);
            x.contract(0, 1, 1, 99, 0);
            Edges.say(x, 1, 5, 5, 5);
            Edges.dueFraction("none LENT", (y, what) -> y.lost(0, 1, what), x, 0, 1);
            Edges.say(x, 2, 0, 3, 4, 9);
            Edges.dueFraction("a RATE of another MORNING", (y, what) -> y.rate(2, what), x, 7, 2);
            Edges.due("no RATE, behind another one, above", x.lost(0, 0, 0), 0);
            x.rate(2, 0);
            Edges.due("no RATE, behind another one, below", x.lost(0, 0, 1), 1);
        });
        Edges.test(Edges.TERMS, "below above 0, in lowest terms", () -> {
            SaidRate x = Edges.withDesks(0, 1);
            // THE RATE is 2 of 6, THE RIGHT RATE 1
            Edges.edition(x, "s0", 0);
            Edges.say(x, 0, 0, 0, 0, 0, 0, 1, 1, 1);
            x.lent(7, 0, 1);
            x.contract(0, 1, 0, 3, 7);
            Edges.dueFraction("3 times 4 of 6", (y, what) -> y.lost(0, 0, what), x, 2, 1);
            x.contract(0, 1, 0, 1, 7);
            Edges.dueFraction("4 times 4 of 6", (y, what) -> y.lost(0, 0, what), x, 8, 3);
            Edges.dueFraction("given", (y, what) -> y.lost(1, 0, what), x, -8, 3);
        });
        Edges.test(23, "BAD", () -> {
            Edges.range("desk", 0, 10, Edges.BAD_FRACTION, (x, v) -> x.lost(v, 0, 0));
            Edges.range("morning", 0, 29, Edges.BAD_FRACTION, (x, v) -> x.lost(0, v, 1));
            Edges.range("what", 0, 1, Edges.BAD_FRACTION, (x, v) -> x.lost(0, 0, v));
            Edges.due("no DESKS", new SaidRate().lost(0, 0, 0), Edges.BAD_FRACTION);
            Edges.due("a thirteenth", Edges.twelveDesks().lost(12, 0, 0), Edges.BAD_FRACTION);
        });
    }

    /** HOUSE 0 is OUT above on so many MORNINGS, then below on others; DESK 0 of it gets (up to 24) by a CONTRACT on each. */
    private static SaidRate leaning(int above, int below) {
        SaidRate x = Edges.withDesks(0, 1);
        for (int morning = 0; morning < above + below; morning++) {
            x.lent(1, morning, 500);
            x.say(0, morning, morning < above ? 999 : 0);
            x.contract(0, 1, morning, 1, 0);
        }
        return x;
    }

    private static void dueLean(String what, SaidRate x, int... want) {
        for (int i = 0; i < 4; i++) {
            Edges.due(what + ", lean(0, " + i + ")", x.lean(0, i), want[i]);
        }
    }

    private static void lean() {
        Edges.test(24, "LEAN of a HOUSE: 0 how many MORNINGS, 1 WITH, 2 CHANCE, 3 FEAR.", () -> {
            dueLean("none", new SaidRate(), 0, 0, 1000, 0);
            dueLean("one WITH", leaning(1, 0), 1, 1, 500, 0);
            dueLean("one against", leaning(0, 1), 1, 0, 1000, 1);
            dueLean("one of both", leaning(1, 1), 2, 1, 750, 1);
            dueLean("the most", leaning(24, 0), 24, 24, 0, 0);
            SaidRate x = Edges.withDesks(7, 6);
            x.lent(6, 29, 500);
            x.say(7, 29, 0);
            x.contract(1, 0, 29, 1, 0);
            Edges.due("the last HOUSE on the last MORNING", x.lean(7, 0), 1);
            Edges.due("the last HOUSE on the last MORNING", x.lean(7, 1), 1);
        });
        Edges.test(24, "BAD", () -> {
            Edges.range("house", 0, 7, BAD, (x, v) -> x.lean(v, 0));
            Edges.range("what", 0, 3, BAD, (x, v) -> x.lean(0, v));
        });
    }

    private static void leanRows() {
        Edges.test(Edges.TERMS, "on which it is OUT and its DESKS' GAINS together are not 0", () -> {
            SaidRate x = Edges.withDesks(0, 0, 1);
            x.lent(1, 0, 500);
            x.contract(0, 2, 0, 1, 0);
            x.say(0, 0, 480);
            dueLean("not OUT", x, 0, 0, 1000, 0);
            x.say(0, 0, 521);
            dueLean("just OUT", x, 1, 1, 500, 0);
            x.contract(2, 1, 0, 1, 0);
            dueLean("GAINS of 1 and -1", x, 0, 0, 1000, 0);
            x.contract(2, 1, 0, 1, 0);
            dueLean("GAINS of 1 and -2", x, 1, 0, 1000, 0);
        });
        Edges.test(Edges.TERMS, "WITH: those on which both have one sign", () -> {
            SaidRate x = Edges.withDesks(0, 1);
            x.lent(1, 0, 500);
            x.lent(1, 1, 500);
            x.contract(1, 0, 0, 99, 0);
            x.contract(0, 1, 1, 99, 0);
            x.say(0, 0, 0);
            x.say(0, 1, 999);
            dueLean("both below, both above", x, 2, 2, 250, 0);
            x.say(0, 0, 999);
            x.say(0, 1, 0);
            dueLean("above and below, below and above", x, 2, 0, 1000, 1);
        });
        Edges.test(Edges.TERMS, "FEAR: MORNINGS on which it is OUT below, and GAINS together are not below 0", () -> {
            SaidRate x = Edges.withDesks(0, 1);
            x.lent(1, 0, 500);
            x.say(0, 0, 479);
            dueLean("GAINS of 0", x, 0, 0, 1000, 1);
            x.contract(1, 0, 0, 1, 0);
            dueLean("GAINS of -1", x, 1, 1, 500, 0);
            x.contract(0, 1, 0, 2, 0);
            dueLean("GAINS of 1", x, 1, 0, 1000, 1);
            x.say(0, 0, 480);
            dueLean("not OUT", x, 0, 0, 1000, 0);
            x.say(0, 0, 999);
            dueLean("OUT above", x, 1, 1, 500, 0);
            SaidRate none = new SaidRate();
            none.lent(1, 29, 500);
            none.say(0, 29, 0);
            dueLean("no DESKS", none, 0, 0, 1000, 1);
        });
    }

    private static void chance() {
        Edges.test(Edges.TERMS, "in thousandths (cut), of all ways of that many signs those with as many WITH, or more", () -> {
            Edges.due("3 of 3: 125", leaning(3, 0).lean(0, 2), 125);
            Edges.due("2 of 3: 4 of 8", leaning(2, 1).lean(0, 2), 500);
            Edges.due("0 of 3: all", leaning(0, 3).lean(0, 2), 1000);
            Edges.due("4 of 4: 62.5 is cut", leaning(4, 0).lean(0, 2), 62);
            Edges.due("9 of 9: 1.95 is cut", leaning(9, 0).lean(0, 2), 1);
            Edges.due("10 of 10: 0.98 is cut", leaning(10, 0).lean(0, 2), 0);
            Edges.due("12 of 24: 9740686 of 16777216", leaning(12, 12).lean(0, 2), 580);
            Edges.due("1 of 24: all but one", leaning(1, 23).lean(0, 2), 999);
            Edges.due("0 of 24: all", leaning(0, 24).lean(0, 2), 1000);
        });
        Edges.test(Edges.TERMS, "Divisions else are cut toward 0.", () -> {
            Edges.due("5 of 6: 7 of 64, 109.375", leaning(5, 1).lean(0, 2), 109);
            Edges.due("6 of 7: 8 of 128, 62.5", leaning(6, 1).lean(0, 2), 62);
            Edges.due("5 of 5: 1 of 32, 31.25", leaning(5, 0).lean(0, 2), 31);
            Edges.due("8 of 11: 232 of 2048, 113.28", leaning(8, 3).lean(0, 2), 113);
            Edges.due("1 of 9: 511 of 512, 998.05", leaning(1, 8).lean(0, 2), 998);
        });
    }

    private static void run() {
        Edges.test(25, "A RUN: its number.", () -> {
            SaidRate x = new SaidRate();
            for (int i = 0; i < 20; i++) {
                Edges.due("alike", x.run(29, 999), i);
            }
        });
        Edges.test(Edges.TERMS, "RUNS 0 .. 19, as they come", () -> {
            SaidRate x = new SaidRate();
            for (int i = 0; i < 20; i++) {
                x.lent(0, i, 500);
                x.say(1, i, 900 + i);
                Edges.due("RUN " + i, x.run(i, i % 2 == 0 ? 500 : 900 + i), i);
            }
            for (int i = 0; i < 20; i++) {
                Edges.due("untrue(" + i + ")", x.untrue(i), i % 2);
                Edges.due("backed(" + i + ")", x.backed(i), i % 2 * 2);
            }
            Edges.due("no RUN 20", x.run(0, 0), FULL);
        });
        Edges.test(25, "BAD", () -> {
            Edges.range("morning", 0, 29, BAD, (x, v) -> x.run(v, 0));
            Edges.refused("BAD ahead of FULL", BAD, Edges::full, x -> x.run(30, 0));
        });
        Edges.test(Edges.TERMS, "a MORNING, a price (0 .. 999)", () -> {
            Edges.range("price", 0, 999, BAD, (x, v) -> x.run(0, v));
            Edges.refused("BAD ahead of FULL", BAD, Edges::full, x -> x.run(0, -1));
        });
        Edges.test(25, "FULL: 20", () -> {
            Edges.due("the 20th", Edges.busy().run(0, 0), 19);
            Edges.refused("a 21st", FULL, Edges::full, x -> x.run(0, 0));
        });
    }

    private static int untrueAt(int price, int... lent) {
        SaidRate x = lending(lent);
        x.run(0, price);
        return x.untrue(0);
    }

    private static void untrue() {
        Edges.test(Edges.TERMS, "it is not between the least and greatest of these", () -> {
            Edges.due("one below the least", untrueAt(399, 600, 400), 1);
            Edges.due("the least", untrueAt(400, 600, 400), 0);
            Edges.due("the greatest", untrueAt(600, 600, 400), 0);
            Edges.due("one above the greatest", untrueAt(601, 600, 400), 1);
            Edges.due("0 of 0", untrueAt(0, 0), 0);
            Edges.due("1 of 0", untrueAt(1, 0), 1);
            Edges.due("999 of 999", untrueAt(999, 999), 0);
            Edges.due("998 of 999", untrueAt(998, 999), 1);
        });
        Edges.test(Edges.TERMS, "FALSE is one, if some LENT then", () -> {
            Edges.due("none LENT", untrueAt(0), 0);
            SaidRate x = new SaidRate();
            x.lent(0, 1, 500);
            x.run(0, 999);
            x.run(1, 999);
            Edges.due("some LENT on another MORNING", x.untrue(0), 0);
            Edges.due("some LENT then", x.untrue(1), 1);
        });
        Edges.test(26, "Whether a RUN is FALSE: 1, 0.", () -> {
            SaidRate x = lending(500);
            x.run(0, 501);
            x.run(0, 500);
            Edges.due("FALSE", x.untrue(0), 1);
            Edges.due("not FALSE", x.untrue(1), 0);
            x.lent(7, 0, 501);
            Edges.due("no more, by what was LENT behind it", x.untrue(0), 0);
        });
        Edges.test(26, "BAD", () -> {
            Edges.range("run", 0, 18, BAD, (x, v) -> x.untrue(v));
            Edges.range("run of 20", 0, 19, BAD, Edges::full, (x, v) -> x.untrue(v));
            Edges.due("no RUNS", new SaidRate().untrue(0), BAD);
        });
    }

    private static void backed() {
        Edges.test(Edges.TERMS, "BACKED it is by HOUSES that SAID just that, and are OUT", () -> {
            SaidRate x = lending(500);
            x.run(0, 479);
            Edges.due("all are SILENT", x.backed(0), 0);
            Edges.say(x, 0, 479, 478, 480, 500, 479, -1, 479, 479);
            Edges.due("just that", x.backed(0), 1 + 16 + 64 + 128);
            x.lent(0, 0, 479);
            Edges.due("one is not OUT, SPREAD now covers the others", x.backed(0), 0);
            SaidRate ends = lending(500);
            ends.run(0, 0);
            ends.run(0, 999);
            ends.run(0, 480);
            Edges.say(ends, 0, 0, 999, 480, -1, -1, -1, 0, 999);
            Edges.due("0", ends.backed(0), 1 + 64);
            Edges.due("999", ends.backed(1), 2 + 128);
            Edges.due("480 is not OUT", ends.backed(2), 0);
        });
        Edges.test(27, "HOUSES by which a RUN is BACKED, as bits.", () -> {
            SaidRate x = lending(500);
            x.run(0, 999);
            Edges.due("none", x.backed(0), 0);
            for (int house = 0; house < 8; house++) {
                x.say(house, 0, 999);
                Edges.due("the first " + (house + 1), x.backed(0), (2 << house) - 1);
            }
        });
        Edges.test(27, "BAD", () -> {
            Edges.range("run", 0, 18, BAD, (x, v) -> x.backed(v));
            Edges.range("run of 20", 0, 19, BAD, Edges::full, (x, v) -> x.backed(v));
            Edges.due("no RUNS", new SaidRate().backed(0), BAD);
        });
    }
}
