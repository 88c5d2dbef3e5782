/** The edges of promises 36 and 37, a test for each of the document's sentences that names one. */
public final class PlansEdgesTest {
    private static final int BAD = SaidRate.BAD, NONE = SaidRate.NONE;

    public static void main(String[] args) {
        bestRefused();
        worstRefused();
        groups();
        mornings();
        cuts();
        Edges.finish(36, 37);
    }

    private static void bestRefused() {
        Edges.test(36, "THE BEST CUT for groups of g HOUSES (1 .. 4).", () -> Edges.range("g", 1, 4, BAD, (x, v) -> x.best(v, 0, 0)));
        Edges.test(36, "BAD: also from above to", () -> {
            Edges.refused("one above", BAD, Edges::busy, x -> x.best(1, 1, 0));
            Edges.refused("far above", BAD, Edges::busy, x -> x.best(1, 29, 0));
            Edges.due("one MORNING", Edges.saying(29, 5, 5, 5).best(1, 29, 29), 1);
            Edges.due("BAD ahead of NONE", new SaidRate().best(1, 1, 0), BAD);
        });
        Edges.test(36, "BAD", () -> {
            Edges.range("from", 0, 29, BAD, (x, v) -> x.best(1, v, 29));
            Edges.range("to", 0, 29, BAD, (x, v) -> x.best(1, 0, v));
        });
        Edges.test(36, "NONE: by none a MORNING has a RATE", () -> {
            Edges.due("at first", new SaidRate().best(4, 0, 29), NONE);
            Edges.due("fewer than LEAST", Edges.saying(0, 1, 2).best(1, 0, 29), NONE);
            Edges.due("just LEAST", Edges.saying(0, 1, 2, 3).best(1, 0, 29) == NONE ? 1 : 0, 0);
            Edges.due("none has SAID, LEAST 1", Edges.ruled("l1").best(1, 0, 29), NONE);
        });
    }

    private static void worstRefused() {
        Edges.test(37, "BAD", () -> {
            Edges.range("g, above", 1, 4, Edges.BAD_FRACTION, (x, v) -> x.worst(v, 0, 0, 0));
            Edges.range("g, below", 1, 4, Edges.BAD_FRACTION, (x, v) -> x.worst(v, 0, 0, 1));
            Edges.range("from", 0, 29, Edges.BAD_FRACTION, (x, v) -> x.worst(1, v, 29, 0));
            Edges.range("to", 0, 29, Edges.BAD_FRACTION, (x, v) -> x.worst(1, 0, v, 0));
            Edges.range("what", 0, 1, Edges.BAD_FRACTION, (x, v) -> x.worst(1, 0, 0, v));
            Edges.refused("from above to", Edges.BAD_FRACTION, Edges::busy, x -> x.worst(1, 1, 0, 0));
            Edges.due("BAD ahead of NONE", new SaidRate().worst(1, 0, 0, 2), Edges.BAD_FRACTION);
        });
        Edges.test(37, "NONE: as best()", () -> {
            Edges.dueFraction("at first", (x, what) -> x.worst(4, 0, 29, what), new SaidRate(), Edges.NO_FRACTION, Edges.NO_FRACTION);
            Edges.dueFraction("two have SAID", (x, what) -> x.worst(1, 0, 0, what), Edges.saying(0, 1, 2), Edges.NO_FRACTION, Edges.NO_FRACTION);
        });
    }

    private static void duePlan(String what, SaidRate x, int g, int[] mornings, int best, long above, long below) {
        // worst() comes first, so that it can't lean on what best() found
        Edges.dueFraction(what + ", worst", (y, w) -> y.worst(g, mornings[0], mornings[1], w), x, above, below);
        Edges.due(what + ", best", x.best(g, mornings[0], mornings[1]), best);
    }

    private static void groups() {
        int[] first = {0, 0};
        Edges.test(37, "The greatest MOVE by it.", () -> {
            SaidRate x = Edges.saying(0, 500, 500, 500, 500, 500, 500, 500, 500);
            duePlan("one of eight", x, 1, first, 1, 0, 1);
            duePlan("two of eight", x, 2, first, 2, 0, 1);
            duePlan("three of eight", x, 3, first, 3, 0, 1);
            duePlan("four of eight", x, 4, first, 0, 250, 1);
        });
        Edges.test(Edges.TERMS, "the greatest MOVE (down or up) of any g HOUSES", () -> {
            duePlan("up is greater", Edges.saying(0, 100, 100, 100), 2, first, 0, 1798, 3);
            duePlan("down is greater", Edges.saying(0, 900, 900, 900), 2, first, 0, 600, 1);
            duePlan("the highest down", Edges.saying(0, 500, 900, 999, 900), 1, first, 1, 200, 1);
            duePlan("the lowest up", Edges.saying(0, 499, 99, 0, 99), 1, first, 1, 200, 1);
            duePlan("down from 0 and up", Edges.saying(0, 0, 0, 0), 4, first, 0, 999, 1);
            duePlan("more than have SAID", Edges.saying(0, 500, -1, -1, 500, 500), 4, first, 0, 500, 1);
            SaidRate one = Edges.ruled("l1");
            one.say(7, 0, 300);
            duePlan("one has SAID", one, 1, first, 0, 699, 1);
            duePlan("one has SAID, groups of four", one, 4, first, 0, 699, 1);
        });
    }

    private static void mornings() {
        Edges.test(Edges.TERMS, "over MORNINGS from one to another", () -> {
            SaidRate x = Edges.saying(0, 100, 100, 100);
            Edges.say(x, 29, 900, 900, 900);
            duePlan("the first and the last", x, 2, new int[] {0, 29}, 0, 600, 1);
            duePlan("without the last", x, 2, new int[] {0, 28}, 0, 1798, 3);
            duePlan("without the first", x, 2, new int[] {1, 29}, 0, 600, 1);
            Edges.due("without both", x.best(2, 1, 28), NONE);
        });
        Edges.test(Edges.TERMS, "on any of these MORNINGS", () -> {
            for (int worst = 0; worst < 30; worst++) {
                SaidRate x = new SaidRate();
                for (int morning = 0; morning < 30; morning++) {
                    Edges.say(x, morning, morning == worst ? new int[] {900, 900, 900} : new int[] {500, 500, 500});
                }
                duePlan("the worst is " + worst, x, 2, new int[] {0, 29}, 0, 600, 1);
            }
        });
        Edges.test(Edges.TERMS, "MORNINGS without a RATE then count for nothing", () -> {
            SaidRate x = Edges.saying(1, 500, 500, 500, 500, 500);
            Edges.say(x, 0, 0, 999);
            Edges.say(x, 2, 999, 0, 500);
            duePlan("CUT 2 has none on the last", x, 1, new int[] {0, 2}, 2, 0, 1);
            duePlan("the last alone", x, 1, new int[] {2, 2}, 0, 333, 1);
        });
    }

    private static void cuts() {
        int[] first = {0, 0};
        Edges.test(Edges.TERMS, "(CUT by it; LEAST as it is;", () -> {
            SaidRate x = Edges.ruled("c3;l1");
            Edges.say(x, 0, 500, 500, 500);
            Edges.due("no RATE by the CUT in force", x.rate(0, 0), Edges.NO_FRACTION);
            duePlan("but by others", x, 1, first, 1, 0, 1);
            SaidRate eight = Edges.ruled("c0;l8");
            Edges.say(eight, 0, 5, 5, 5, 5, 5, 5, 5);
            Edges.due("LEAST 8, seven have SAID", eight.best(1, 0, 0), NONE);
            eight.say(7, 0, 5);
            duePlan("LEAST 8, all have SAID", eight, 1, first, 1, 0, 1);
        });
        Edges.test(Edges.TERMS, "that of 0 .. 3 by which", () -> {
            duePlan("0", Edges.saying(0, 100, 100, 100), 2, first, 0, 1798, 3);
            SaidRate x = Edges.saying(0, 500, 500, 500, 500, 500, 500, 500, 500);
            for (int g = 1; g <= 3; g++) {
                duePlan("" + g, x, g, first, g, 0, 1);
            }
        });
        Edges.test(Edges.TERMS, "a CUT by which none has one is left out", () -> {
            duePlan("CUTS 2 and 3 of four", Edges.saying(0, 500, 500, 500, 500), 2, first, 0, 250, 1);
            duePlan("CUT 3 of six", Edges.saying(0, 500, 500, 500, 500, 500, 500), 3, first, 0, 250, 1);
            duePlan("CUT 3 of seven", Edges.saying(0, 500, 500, 500, 500, 500, 500, 500), 3, first, 3, 0, 1);
            SaidRate two = Edges.ruled("l1");
            Edges.say(two, 0, 500, 500);
            duePlan("all but CUT 0 of two", two, 2, first, 0, 500, 1);
        });
        Edges.test(Edges.TERMS, "is least; of like ones the least", () -> {
            SaidRate x = Edges.saying(0, 500, 500, 500, 500, 500, 500, 500, 500);
            duePlan("CUTS 1, 2 and 3 are like", x, 1, first, 1, 0, 1);
            duePlan("CUTS 2 and 3 are like", x, 2, first, 2, 0, 1);
            duePlan("all are like", x, 4, first, 0, 250, 1);
        });
    }
}
