/** The edges of promises 13 to 18, a test for each of the document's sentences that names one. */
public final class DesksEdgesTest {
    private static final int BAD = SaidRate.BAD, FULL = SaidRate.FULL;

    public static void main(String[] args) {
        desk();
        contract();
        gain();
        paid();
        unlike();
        count();
        Edges.finish(13, 18);
    }

    private static void desk() {
        Edges.test(13, "A DESK: its number.", () -> {
            SaidRate x = new SaidRate();
            for (int i = 0; i < 12; i++) {
                Edges.due("all of one HOUSE", x.desk(7), i);
            }
        });
        Edges.test(Edges.TERMS, "DESKS 0 .. 11, as they come, are of HOUSES", () -> {
            SaidRate x = new SaidRate();
            int[] houses = {7, 0, 7, 1, 6, 2, 5, 3, 4, 4, 0, 7};
            for (int i = 0; i < 12; i++) {
                Edges.due("DESK " + i, x.desk(houses[i]), i);
            }
            for (int a = 0; a < 12; a++) {
                for (int b = 0; b < a; b++) {
                    Edges.due("a WALL from " + a + " to " + b, x.wall(a, b, true), houses[a] == houses[b] ? 0 : BAD);
                }
            }
            Edges.due("no DESK 12", x.desk(0), FULL);
        });
        Edges.test(13, "BAD", () -> {
            Edges.range("house", 0, 7, BAD, (x, v) -> x.desk(v));
            Edges.refused("BAD ahead of FULL", BAD, Edges::full, x -> x.desk(8));
        });
        Edges.test(13, "FULL: 12", () -> {
            Edges.due("the twelfth", Edges.busy().desk(0), 11);
            Edges.refused("a thirteenth", FULL, Edges::full, x -> x.desk(0));
        });
    }

    private static void contract() {
        Edges.test(14, "A CONTRACT: its number.", () -> {
            SaidRate x = Edges.withDesks(0, 0);
            for (int i = 0; i < 24; i++) {
                Edges.due("alike, within a HOUSE", x.contract(0, 1, 0, 1, 0), i);
            }
        });
        Edges.test(Edges.TERMS, "CONTRACTS 0 .. 23, as they come: DESK a gets from another one, b", () -> {
            SaidRate x = Edges.twelveDesks();
            for (int i = 0; i < 24; i++) {
                Edges.due("CONTRACT " + i, x.contract(i % 12, (i + 1) % 12, i, 99 - i, i), i);
            }
            for (int i = 0; i < 24; i++) {
                Edges.due("the one that gets by " + i, x.gain(i % 12, i, 0), 99 - i);
                Edges.due("the one that gives by " + i, x.gain((i + 1) % 12, i, 0), i - 99);
            }
            Edges.due("no CONTRACT 24", x.contract(0, 1, 0, 1, 0), FULL);
        });
        Edges.test(14, "BAD: also one DESK", () -> {
            for (int i = 0; i < 11; i++) {
                int desk = i;
                Edges.refused("one DESK, " + desk, BAD, Edges::busy, x -> x.contract(desk, desk, 0, 1, 0));
            }
            Edges.refused("one DESK that is not there", BAD, Edges::busy, x -> x.contract(11, 11, 0, 1, 0));
        });
        Edges.test(14, "BAD", () -> {
            Edges.range("a", 0, 10, BAD, (x, v) -> x.contract(v, 5, 0, 1, 0));
            Edges.range("b", 0, 10, BAD, (x, v) -> x.contract(5, v, 0, 1, 0));
            Edges.due("no DESKS", new SaidRate().contract(0, 1, 0, 1, 0), BAD);
            Edges.due("one DESK alone", Edges.withDesks(0).contract(0, 1, 0, 1, 0), BAD);
            Edges.due("the last of twelve", Edges.twelveDesks().contract(11, 0, 0, 1, 0), 0);
            Edges.due("the last of twelve", Edges.twelveDesks().contract(0, 11, 0, 1, 0), 0);
            Edges.due("a thirteenth", Edges.twelveDesks().contract(12, 0, 0, 1, 0), BAD);
            Edges.due("a thirteenth", Edges.twelveDesks().contract(0, 12, 0, 1, 0), BAD);
            Edges.range("morning", 0, 29, BAD, (x, v) -> x.contract(0, 1, v, 1, 0));
        });
        Edges.test(Edges.TERMS, "SIZE (1 .. 99) times THE RATE of a MORNING less a STRIKE (0 .. 999)", () -> {
            Edges.range("size", 1, 99, BAD, (x, v) -> x.contract(0, 1, 0, v, 0));
            Edges.range("strike", 0, 999, BAD, (x, v) -> x.contract(0, 1, 0, 1, v));
        });
        Edges.test(14, "FULL: 24", () -> {
            Edges.due("the 24th", Edges.busy().contract(0, 1, 0, 1, 0), 23);
            Edges.refused("a 25th", FULL, Edges::full, x -> x.contract(0, 1, 0, 1, 0));
            Edges.refused("BAD ahead of FULL", BAD, Edges::full, x -> x.contract(0, 0, 0, 1, 0));
            Edges.refused("BAD ahead of FULL", BAD, Edges::full, x -> x.contract(0, 1, 0, 1, 1000));
        });
    }

    private static void gain() {
        Edges.test(15, "GAIN of a DESK (0), of the HOUSE of it, together (1).", () -> {
            SaidRate x = Edges.twelveDesks();
            for (int i = 0; i < 24; i++) {
                x.contract(0, 11, 29, 99, 999);
            }
            Edges.due("the greatest", x.gain(0, 29, 0), 2376);
            Edges.due("the least", x.gain(11, 29, 0), -2376);
            Edges.due("none", x.gain(1, 29, 0), 0);
            Edges.due("by another DESK of the HOUSE", x.gain(8, 29, 1), 2376);
            Edges.due("by another DESK of the HOUSE", x.gain(3, 29, 1), -2376);
            Edges.due("the MORNING ahead", x.gain(0, 28, 1), 0);
        });
        Edges.test(Edges.TERMS, "SIZES of CONTRACTS by which it gets, less those by which it gives", () -> {
            SaidRate x = Edges.withDesks(5, 5);
            x.contract(0, 1, 0, 99, 0);
            Edges.due("of the one that gets", x.gain(0, 0, 0), 99);
            Edges.due("of the one that gives", x.gain(1, 0, 0), -99);
            Edges.due("within a HOUSE, together", x.gain(0, 0, 1), 0);
            x.contract(1, 0, 0, 99, 999);
            Edges.due("there and back", x.gain(0, 0, 0), 0);
            x.contract(1, 0, 0, 1, 0);
            Edges.due("and one more", x.gain(0, 0, 0), -1);
        });
        Edges.test(Edges.TERMS, "GAIN of a DESK on a MORNING", () -> {
            SaidRate x = Edges.withDesks(0, 1);
            x.contract(0, 1, 0, 1, 0);
            x.contract(1, 0, 29, 2, 0);
            Edges.due("the first MORNING", x.gain(0, 0, 0), 1);
            Edges.due("the one behind it", x.gain(0, 1, 0), 0);
            Edges.due("the last MORNING", x.gain(0, 29, 0), -2);
            Edges.due("the one ahead of it", x.gain(0, 28, 0), 0);
            Edges.due("without a RATE too", x.rate(0, 0), Edges.NO_FRACTION);
        });
        Edges.test(15, "BAD less 10000 (-10001)", () -> {
            Edges.range("desk", 0, 10, -10001, (x, v) -> x.gain(v, 0, 0));
            Edges.range("morning", 0, 29, -10001, (x, v) -> x.gain(0, v, 0));
            Edges.range("which", 0, 1, -10001, (x, v) -> x.gain(0, 0, v));
            Edges.due("no DESKS", new SaidRate().gain(0, 0, 1), -10001);
            Edges.due("the last of twelve", Edges.twelveDesks().gain(11, 0, 0), 0);
            Edges.due("a thirteenth", Edges.twelveDesks().gain(12, 0, 0), -10001);
        });
    }

    private static void paid() {
        Edges.test(16, "PAID.", () -> {
            SaidRate x = Edges.twelveDesks();
            Edges.say(x, 29, 999, 999, 999);
            for (int i = 0; i < 24; i++) {
                x.contract(0, 11, 29, 99, 0);
            }
            Edges.dueFraction("the greatest", (y, what) -> y.paid(0, 29, what), x, 2373624, 1);
            Edges.dueFraction("the least", (y, what) -> y.paid(11, 29, what), x, -2373624, 1);
            Edges.dueFraction("no CONTRACT", (y, what) -> y.paid(5, 29, what), x, 0, 1);
        });
        Edges.test(Edges.TERMS, "times THE RATE of a MORNING less a STRIKE", () -> {
            SaidRate x = Edges.withDesks(0, 1);
            Edges.say(x, 0, 0, 0, 0);
            x.contract(0, 1, 0, 99, 999);
            Edges.dueFraction("a RATE of 0", (y, what) -> y.paid(0, 0, what), x, -98901, 1);
            Edges.dueFraction("a RATE of 0, from whom", (y, what) -> y.paid(1, 0, what), x, 98901, 1);
            for (int i = 1; i < 24; i++) {
                x.contract(0, 1, 0, 99, 999);
            }
            Edges.dueFraction("the least that all 24 give", (y, what) -> y.paid(0, 0, what), x, -2373624, 1);
            x = Edges.withDesks(0, 1);
            x.contract(0, 1, 1, 50, 500);
            Edges.say(x, 1, 500, 500, 500);
            Edges.dueFraction("a RATE that is the STRIKE", (y, what) -> y.paid(0, 1, what), x, 0, 1);
        });
        Edges.test(Edges.TERMS, "below above 0, in lowest terms", () -> {
            SaidRate x = Edges.withDesks(0, 1);
            Edges.say(x, 0, 0, 0, 0, 0, 0, 0, 1, 1);
            x.contract(0, 1, 0, 4, 0);
            Edges.dueFraction("4 of 6", (y, what) -> y.paid(0, 0, what), x, 2, 3);
            Edges.dueFraction("4 of 6, given", (y, what) -> y.paid(1, 0, what), x, -2, 3);
            x.contract(0, 1, 0, 8, 0);
            Edges.dueFraction("12 of 6", (y, what) -> y.paid(1, 0, what), x, -2, 1);
        });
        Edges.test(Edges.TERMS, "PAID is what it gets in all on that MORNING", () -> {
            SaidRate x = Edges.withDesks(0, 1, 2);
            Edges.say(x, 0, 500, 500, 500);
            Edges.say(x, 1, 600, 600, 600);
            x.contract(0, 1, 0, 1, 400);
            x.contract(0, 2, 0, 2, 499);
            x.contract(2, 0, 0, 3, 501);
            x.contract(0, 1, 1, 99, 0);
            Edges.dueFraction("100, 2 and 3", (y, what) -> y.paid(0, 0, what), x, 105, 1);
            Edges.dueFraction("-2 and -3", (y, what) -> y.paid(2, 0, what), x, -5, 1);
            Edges.dueFraction("the MORNING behind it", (y, what) -> y.paid(0, 1, what), x, 59400, 1);
            Edges.dueFraction("none then", (y, what) -> y.paid(2, 1, what), x, 0, 1);
        });
        Edges.test(Edges.TERMS, "less what it gives (0 without a RATE)", () -> {
            SaidRate x = Edges.withDesks(0, 1);
            x.contract(0, 1, 0, 99, 999);
            Edges.say(x, 0, 500, 500);
            Edges.dueFraction("no RATE", (y, what) -> y.paid(0, 0, what), x, 0, 1);
            Edges.dueFraction("no RATE, from whom", (y, what) -> y.paid(1, 0, what), x, 0, 1);
            Edges.say(x, 1, 0, 3, 4, 9);
            Edges.dueFraction("a RATE of another MORNING", (y, what) -> y.rate(1, what), x, 7, 2);
            Edges.due("no RATE, behind another one, above", x.paid(0, 0, 0), 0);
            x.rate(1, 0);
            Edges.due("no RATE, behind another one, below", x.paid(0, 0, 1), 1);
        });
        Edges.test(16, "BAD", () -> {
            Edges.range("desk, above", 0, 10, Edges.BAD_FRACTION, (x, v) -> x.paid(v, 0, 0));
            Edges.range("desk, below", 0, 10, Edges.BAD_FRACTION, (x, v) -> x.paid(v, 0, 1));
            Edges.range("morning", 0, 29, Edges.BAD_FRACTION, (x, v) -> x.paid(0, v, 0));
            Edges.range("what", 0, 1, Edges.BAD_FRACTION, (x, v) -> x.paid(0, 0, v));
            Edges.due("no DESKS", new SaidRate().paid(0, 0, 0), Edges.BAD_FRACTION);
            Edges.due("a thirteenth", Edges.twelveDesks().paid(12, 0, 0), Edges.BAD_FRACTION);
        });
    }

    private static void unlike() {
        Edges.test(17, "UNLIKE HOUSES as bits.", () -> {
            Edges.due("no DESKS", new SaidRate().unlike(29), 0);
            SaidRate x = Edges.withDesks(7, 0, 7, 0);
            x.contract(0, 2, 29, 1, 0);
            Edges.due("the last HOUSE", x.unlike(29), 128);
            x.contract(1, 3, 29, 1, 0);
            Edges.due("the first and the last", x.unlike(29), 129);
            Edges.due("the MORNING ahead", x.unlike(28), 0);
        });
        Edges.test(Edges.TERMS, "UNLIKE are HOUSES with a DESK of GAIN above 0 and one of GAIN below", () -> {
            SaidRate x = Edges.withDesks(3, 3, 4);
            x.contract(0, 2, 0, 1, 0);
            Edges.due("1 and 0", x.unlike(0), 0);
            x.contract(2, 1, 0, 1, 0);
            Edges.due("1 and -1", x.unlike(0), 8);
            x.contract(2, 0, 0, 1, 0);
            Edges.due("0 and -1", x.unlike(0), 0);
            x.contract(2, 0, 0, 1, 0);
            Edges.due("-1 and -1", x.unlike(0), 0);
            SaidRate many = Edges.withDesks(3, 3, 3, 4, 4, 4, 5);
            many.contract(0, 6, 0, 1, 0);
            many.contract(1, 6, 0, 1, 0);
            Edges.due("two above, none below", many.unlike(0), 0);
            many.contract(6, 2, 0, 9, 0);
            Edges.due("two above and one below", many.unlike(0), 8);
            many.contract(6, 3, 0, 1, 0);
            many.contract(6, 4, 0, 1, 0);
            Edges.due("two below, none above", many.unlike(0), 8);
            many.contract(5, 6, 0, 1, 0);
            Edges.due("two below and one above", many.unlike(0), 24);
        });
        Edges.test(17, "BAD", () -> Edges.range("morning", 0, 29, BAD, (x, v) -> x.unlike(v)));
    }

    private static void count() {
        Edges.test(18, "0 DESKS, 1 CONTRACTS, 2 LENT, 3 RUNS, 4 WORDS, 5 EDITIONS", () -> {
            int[] most = {12, 24, 60, 20, 40, 4};
            for (int what = 0; what < 6; what++) {
                Edges.due("none of " + what, new SaidRate().count(what), 0);
                Edges.due("all but one of " + what, Edges.busy().count(what), most[what] - 1);
                Edges.due("all of " + what, Edges.full().count(what), most[what]);
            }
        });
        Edges.test(18, "BAD", () -> Edges.range("what", 0, 5, BAD, (x, v) -> x.count(v)));
        Edges.test(Edges.TERMS, "What is refused changes nothing.", () -> {
            SaidRate x = Edges.full();
            x.desk(0);
            x.contract(0, 1, 0, 1, 0);
            x.lent(0, 0, 0);
            x.run(0, 0);
            x.word(0, 1, 0, 0);
            x.rules(29);
            int[] most = {12, 24, 60, 20, 40, 4};
            for (int what = 0; what < 6; what++) {
                Edges.due("as many as ahead of it, of " + what, x.count(what), most[what]);
            }
        });
    }
}
