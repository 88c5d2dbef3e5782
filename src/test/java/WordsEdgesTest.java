/** The edges of promises 28 to 35, a test for each of the document's sentences that names one. */
public final class WordsEdgesTest {
    private static final int BAD = SaidRate.BAD, FULL = SaidRate.FULL, NONE = SaidRate.NONE;

    public static void main(String[] args) {
        word();
        wall();
        crossed();
        knew();
        knewLater();
        way();
        owe();
        net();
        ringed();
        Edges.finish(28, 35);
    }

    private static void word() {
        Edges.test(28, "A WORD: its number.", () -> {
            SaidRate x = Edges.withDesks(0, 0);
            for (int i = 0; i < 40; i++) {
                Edges.due("alike", x.word(0, 1, 29, 999), i);
            }
        });
        Edges.test(Edges.TERMS, "WORDS 0 .. 39, as they come: from a DESK to another, on a MORNING", () -> {
            SaidRate x = Edges.twelveDesks();
            for (int i = 0; i < 40; i++) {
                Edges.due("WORD " + i, x.word(i % 12, (i + 5) % 12, i % 30, i), i);
            }
            for (int i = 30; i < 40; i++) {
                Edges.due("told by WORD " + i, x.way(i % 12, (i + 5) % 12, i % 30), 1);
                Edges.due("none back", x.way((i + 5) % 12, i % 12, i % 30), NONE);
                Edges.due("told by the one of that MORNING ahead", x.way((i - 30) % 12, (i - 25) % 12, i % 30), 1);
            }
            Edges.due("no WORD 40", x.word(0, 1, 0, 0), FULL);
        });
        Edges.test(28, "BAD: also one DESK", () -> {
            for (int i = 0; i < 11; i++) {
                int desk = i;
                Edges.refused("one DESK, " + desk, BAD, Edges::busy, x -> x.word(desk, desk, 0, 0));
            }
            Edges.refused("one DESK that is not there", BAD, Edges::busy, x -> x.word(11, 11, 0, 0));
        });
        Edges.test(28, "BAD", () -> {
            Edges.range("a", 0, 10, BAD, (x, v) -> x.word(v, 5, 0, 0));
            Edges.range("b", 0, 10, BAD, (x, v) -> x.word(5, v, 0, 0));
            Edges.range("morning", 0, 29, BAD, (x, v) -> x.word(0, 1, v, 0));
            Edges.due("no DESKS", new SaidRate().word(0, 1, 0, 0), BAD);
            Edges.due("the last of twelve", Edges.twelveDesks().word(11, 0, 0, 0), 0);
            Edges.due("the last of twelve", Edges.twelveDesks().word(0, 11, 0, 0), 0);
            Edges.due("a thirteenth", Edges.twelveDesks().word(12, 0, 0, 0), BAD);
            Edges.due("a thirteenth", Edges.twelveDesks().word(0, 12, 0, 0), BAD);
        });
        Edges.test(Edges.TERMS, "at a MINUTE (0 .. 999)", () -> Edges.range("minute", 0, 999, BAD, (x, v) -> x.word(0, 1, 0, v)));
        Edges.test(28, "FULL: 40", () -> {
            Edges.due("the 40th", Edges.busy().word(0, 1, 0, 0), 39);
            Edges.refused("a 41st", FULL, Edges::full, x -> x.word(0, 1, 0, 0));
            Edges.refused("BAD ahead of FULL", BAD, Edges::full, x -> x.word(0, 0, 0, 0));
            Edges.refused("BAD ahead of FULL", BAD, Edges::full, x -> x.word(0, 1, 0, 1000));
        });
    }

    private static void wall() {
        Edges.test(29, "A WALL is there, or not: whether it was (1, 0).", () -> {
            SaidRate x = Edges.withDesks(0, 0);
            Edges.due("away, where none was", x.wall(0, 1, false), 0);
            Edges.due("there", x.wall(0, 1, true), 0);
            Edges.due("there, where one was", x.wall(1, 0, true), 1);
            Edges.due("away", x.wall(0, 1, false), 1);
            Edges.due("away, where none was any more", x.wall(1, 0, false), 0);
        });
        Edges.test(Edges.TERMS, "WALLS are between two DESKS of one HOUSE, or not (at first).", () -> {
            SaidRate x = Edges.withDesks(7, 7, 7, 7, 7, 7, 7, 7, 7, 7, 7, 7);
            for (int a = 0; a < 12; a++) {
                for (int b = 0; b < a; b++) {
                    Edges.due("none at first", x.wall(a, b, true), 0);
                    Edges.due("one between these two", x.wall(b, a, true), 1);
                }
            }
        });
        Edges.test(29, "BAD: also DESKS of unlike HOUSES, one DESK", () -> {
            for (boolean is : new boolean[] {false, true}) {
                Edges.refused("unlike HOUSES", BAD, Edges::busy, x -> x.wall(0, 1, is));
                Edges.refused("one DESK", BAD, Edges::busy, x -> x.wall(4, 4, is));
                Edges.refused("one DESK that is not there", BAD, Edges::busy, x -> x.wall(11, 11, is));
                Edges.range("a", 0, 8, BAD, () -> Edges.withDesks(0, 0, 0, 0, 0, 0, 0, 0, 0), (x, v) -> x.wall(v, 4, is));
                Edges.range("b", 0, 8, BAD, () -> Edges.withDesks(0, 0, 0, 0, 0, 0, 0, 0, 0), (x, v) -> x.wall(4, v, is));
                Edges.due("no DESKS", new SaidRate().wall(0, 1, is), BAD);
                Edges.due("a thirteenth", Edges.twelveDesks().wall(12, 0, is), BAD);
                Edges.due("a thirteenth", Edges.twelveDesks().wall(0, 12, is), BAD);
            }
        });
    }

    private static void crossed() {
        Edges.test(30, "How many WORDS of a MORNING CROSSED a WALL.", () -> {
            Edges.due("none", new SaidRate().crossed(0), 0);
            SaidRate x = Edges.withDesks(0, 0, 1);
            for (int i = 0; i < 40; i++) {
                x.word(i % 2, 1 - i % 2, 29, 0);
            }
            Edges.due("no WALL", x.crossed(29), 0);
            x.wall(0, 1, true);
            Edges.due("all, both ways", x.crossed(29), 40);
            Edges.due("the MORNING ahead", x.crossed(28), 0);
            x.wall(1, 0, false);
            Edges.due("the WALL is away", x.crossed(29), 0);
            SaidRate apart = Edges.withDesks(0, 0);
            apart.wall(0, 1, true);
            for (int i = 0; i < 6; i++) {
                apart.word(0, 1, i < 3 ? 1 : i - 3, i);
            }
            Edges.due("one of six", apart.crossed(0), 1);
            Edges.due("four of six", apart.crossed(1), 4);
            Edges.due("one of six", apart.crossed(2), 1);
            Edges.due("none of six", apart.crossed(3), 0);
        });
        Edges.test(Edges.TERMS, "CROSSED are WALLS by WORDS between such.", () -> {
            SaidRate x = Edges.withDesks(0, 0, 0, 1);
            x.wall(0, 1, true);
            x.word(0, 2, 0, 0);
            x.word(2, 1, 0, 1);
            x.word(0, 3, 0, 2);
            x.word(3, 1, 0, 3);
            Edges.due("round the WALL", x.crossed(0), 0);
            x.word(1, 0, 0, 0);
            Edges.due("through it", x.crossed(0), 1);
            Edges.due("a WALL holds no WORD back", x.way(1, 0, 0), 1);
        });
        Edges.test(30, "BAD", () -> Edges.range("morning", 0, 29, BAD, (x, v) -> x.crossed(v)));
    }

    private static SaidRate told(int[]... words) {
        SaidRate x = Edges.twelveDesks();
        for (int[] w : words) {
            x.word(w[0], w[1], 0, w[2]);
        }
        return x;
    }

    private static void knew() {
        Edges.test(31, "DESKS (bits) that KNEW, itself too.", () -> {
            SaidRate x = Edges.twelveDesks();
            Edges.due("the first alone", x.knew(0, 29, 0), 1);
            Edges.due("the last alone", x.knew(11, 29, 999), 2048);
            for (int desk = 0; desk < 11; desk++) {
                x.word(desk, desk + 1, 29, desk);
            }
            Edges.due("all by a chain", x.knew(0, 29, 999), 4095);
            Edges.due("all but the first", x.knew(1, 29, 999), 4094);
        });
        Edges.test(Edges.TERMS, "what a DESK knew from 0 on", () -> {
            Edges.due("a WORD at 0", told(new int[] {0, 1, 0}).knew(0, 0, 0), 3);
            Edges.due("told again what it knew", told(new int[] {0, 1, 0}, new int[] {1, 0, 5}, new int[] {0, 2, 3}).knew(0, 0, 3), 7);
        });
        Edges.test(Edges.TERMS, "WORDS of that MORNING at MINUTES up to that one", () -> {
            SaidRate x = told(new int[] {0, 1, 500}, new int[] {0, 2, 999});
            Edges.due("by 499", x.knew(0, 0, 499), 1);
            Edges.due("by 500", x.knew(0, 0, 500), 3);
            Edges.due("by 998", x.knew(0, 0, 998), 3);
            Edges.due("by 999", x.knew(0, 0, 999), 7);
            Edges.due("another MORNING", x.knew(0, 1, 999), 1);
        });
        Edges.test(31, "BAD", () -> {
            Edges.range("desk", 0, 10, BAD, (x, v) -> x.knew(v, 0, 0));
            Edges.range("morning", 0, 29, BAD, (x, v) -> x.knew(0, v, 0));
            Edges.range("minute", 0, 999, BAD, (x, v) -> x.knew(0, 0, v));
            Edges.due("no DESKS", new SaidRate().knew(0, 0, 0), BAD);
            Edges.due("a thirteenth", Edges.twelveDesks().knew(12, 0, 0), BAD);
        });
    }

    private static void knewLater() {
        Edges.test(Edges.TERMS, "each later than that at which its teller was told", () -> {
            Edges.due("a MINUTE ahead", told(new int[] {0, 1, 5}, new int[] {1, 2, 4}).knew(0, 0, 999), 3);
            Edges.due("the same MINUTE", told(new int[] {0, 1, 5}, new int[] {1, 2, 5}).knew(0, 0, 999), 3);
            Edges.due("a MINUTE later", told(new int[] {0, 1, 5}, new int[] {1, 2, 6}).knew(0, 0, 999), 7);
            Edges.due("the same MINUTE, 0", told(new int[] {0, 1, 0}, new int[] {1, 2, 0}).knew(0, 0, 999), 3);
            Edges.due("the same MINUTE, 999", told(new int[] {0, 1, 999}, new int[] {1, 2, 999}).knew(0, 0, 999), 3);
            Edges.due("later, but put ahead", told(new int[] {1, 2, 6}, new int[] {0, 1, 5}).knew(0, 0, 999), 7);
            Edges.due("told twice, the first counts", told(new int[] {0, 1, 9}, new int[] {1, 2, 6}, new int[] {0, 1, 5}).knew(0, 0, 999), 7);
            Edges.due("round and back", told(new int[] {0, 1, 1}, new int[] {1, 0, 2}, new int[] {0, 1, 3}).knew(0, 0, 999), 3);
        });
    }

    private static void way() {
        Edges.test(32, "How many WORDS a WAY has (0: to itself).", () -> {
            SaidRate x = Edges.twelveDesks();
            Edges.due("the first to itself", x.way(0, 0, 0), 0);
            Edges.due("the last to itself", x.way(11, 11, 29), 0);
            for (int desk = 0; desk < 11; desk++) {
                x.word(desk, desk + 1, 29, 989 + desk);
            }
            Edges.due("one WORD", x.way(0, 1, 29), 1);
            Edges.due("the longest", x.way(0, 11, 29), 11);
            x.word(1, 0, 29, 995);
            Edges.due("to itself, though it was told", x.way(0, 0, 29), 0);
        });
        Edges.test(Edges.TERMS, "the fewest such WORDS", () -> {
            SaidRate x = told(new int[] {0, 1, 1}, new int[] {1, 2, 2}, new int[] {2, 3, 3}, new int[] {0, 3, 999});
            Edges.due("one late WORD ahead of three early ones", x.way(0, 3, 0), 1);
            x.word(3, 4, 0, 999);
            Edges.due("the last MINUTE, behind three early ones", x.way(0, 4, 0), 4);
            Edges.due("from the teller itself", x.way(3, 4, 0), 1);
            SaidRate twice = told(new int[] {0, 1, 5}, new int[] {0, 1, 9}, new int[] {1, 2, 6});
            Edges.due("told again later, the first counts", twice.way(0, 2, 0), 2);
            twice = told(new int[] {0, 1, 9}, new int[] {0, 1, 5}, new int[] {1, 2, 6});
            Edges.due("told again later, but put ahead", twice.way(0, 2, 0), 2);
        });
        Edges.test(32, "BAD", () -> {
            Edges.range("a", 0, 10, BAD, (x, v) -> x.way(v, 5, 0));
            Edges.range("b", 0, 10, BAD, (x, v) -> x.way(5, v, 0));
            Edges.range("morning", 0, 29, BAD, (x, v) -> x.way(0, 0, v));
            Edges.due("no DESKS", new SaidRate().way(0, 0, 0), BAD);
            Edges.due("a thirteenth to itself", Edges.twelveDesks().way(12, 12, 0), BAD);
        });
        Edges.test(32, "NONE", () -> {
            Edges.due("no WORDS", Edges.twelveDesks().way(0, 1, 0), NONE);
            SaidRate x = told(new int[] {0, 1, 5}, new int[] {1, 2, 5});
            Edges.due("not back", x.way(1, 0, 0), NONE);
            Edges.due("another MORNING", x.way(0, 1, 1), NONE);
            Edges.due("the same MINUTE", x.way(0, 2, 0), NONE);
            Edges.due("the same MINUTE, 0", told(new int[] {0, 1, 0}, new int[] {1, 2, 0}).way(0, 2, 0), NONE);
        });
    }

    private static void owe() {
        Edges.test(33, "A DESK owes another one n: what it owed.", () -> {
            SaidRate x = Edges.twelveDesks();
            Edges.due("the most", x.owe(0, 11, 99), 0);
            Edges.due("the other way", x.owe(11, 0, 1), 0);
            Edges.due("none", x.owe(0, 11, 0), 99);
            Edges.due("none, where none was", x.owe(0, 11, 0), 0);
            Edges.due("the other way", x.owe(11, 0, 0), 1);
        });
        Edges.test(Edges.TERMS, "a DESK owes another one so many (0 .. 99; 0 at first)", () -> {
            Edges.range("n", 0, 99, BAD, (x, v) -> x.owe(0, 1, v));
            SaidRate x = Edges.twelveDesks();
            for (int pair = 0; pair < 144; pair++) {
                if (pair / 12 != pair % 12) {
                    Edges.due("0 at first", x.owe(pair / 12, pair % 12, 1), 0);
                }
            }
        });
        Edges.test(33, "BAD: also one DESK", () -> {
            for (int i = 0; i < 11; i++) {
                int desk = i;
                Edges.refused("one DESK, " + desk, BAD, Edges::busy, x -> x.owe(desk, desk, 1));
                Edges.refused("one DESK, " + desk + ", none", BAD, Edges::busy, x -> x.owe(desk, desk, 0));
            }
            Edges.refused("one DESK that is not there", BAD, Edges::busy, x -> x.owe(11, 11, 0));
        });
        Edges.test(33, "BAD", () -> {
            Edges.range("a", 0, 10, BAD, (x, v) -> x.owe(v, 5, 1));
            Edges.range("b", 0, 10, BAD, (x, v) -> x.owe(5, v, 1));
            Edges.due("no DESKS", new SaidRate().owe(0, 1, 1), BAD);
            Edges.due("a thirteenth", Edges.twelveDesks().owe(12, 0, 1), BAD);
            Edges.due("a thirteenth", Edges.twelveDesks().owe(0, 12, 1), BAD);
        });
    }

    private static void net() {
        Edges.test(34, "All that is owed to a DESK, less what it owes.", () -> {
            SaidRate x = Edges.twelveDesks();
            Edges.due("none", x.net(11), 0);
            for (int desk = 1; desk < 12; desk++) {
                x.owe(desk, 0, 99);
            }
            Edges.due("the most that can be owed", x.net(0), 1089);
            Edges.due("one that owes", x.net(11), -99);
            for (int desk = 1; desk < 12; desk++) {
                x.owe(desk, 0, 0);
                x.owe(0, desk, 99);
            }
            Edges.due("the most that one can owe", x.net(0), -1089);
            Edges.due("one that is owed", x.net(11), 99);
        });
        Edges.test(34, "BAD less 10000", () -> {
            Edges.range("desk", 0, 10, -10001, (x, v) -> x.net(v));
            Edges.due("no DESKS", new SaidRate().net(0), -10001);
            Edges.due("a thirteenth", Edges.twelveDesks().net(12), -10001);
        });
    }

    private static void ringed() {
        Edges.test(35, "RINGED DESKS as bits.", () -> {
            Edges.due("no DESKS", new SaidRate().ringed(), 0);
            SaidRate x = Edges.twelveDesks();
            Edges.due("no favours", x.ringed(), 0);
            x.owe(0, 11, 1);
            Edges.due("one way alone", x.ringed(), 0);
            x.owe(11, 0, 1);
            Edges.due("the first and the last", x.ringed(), 2049);
            x.owe(11, 0, 0);
            Edges.due("no more", x.ringed(), 0);
        });
        Edges.test(Edges.TERMS, "those DESKS from each of which to each other one favours lead on", () -> {
            SaidRate x = Edges.twelveDesks();
            for (int desk = 11; desk > 0; desk--) {
                x.owe(desk, desk - 1, 1);
            }
            Edges.due("a chain of all", x.ringed(), 0);
            x.owe(0, 11, 1);
            Edges.due("a RING of all", x.ringed(), 4095);
            x.owe(0, 11, 0);
            x.owe(5, 7, 99);
            Edges.due("a RING that others lead to and from", x.ringed(), 32 + 64 + 128);
            x.owe(1, 2, 99);
            Edges.due("two RINGS on one chain", x.ringed(), 2 + 4 + 32 + 64 + 128);
        });
        Edges.test(Edges.TERMS, "RINGED are all DESKS in such", () -> {
            SaidRate x = Edges.twelveDesks();
            for (int desk = 0; desk < 12; desk += 2) {
                x.owe(desk, desk + 1, 1);
                x.owe(desk + 1, desk, 99);
            }
            Edges.due("six RINGS of two", x.ringed(), 4095);
            x.owe(10, 11, 0);
            Edges.due("five of them", x.ringed(), 1023);
        });
    }
}
