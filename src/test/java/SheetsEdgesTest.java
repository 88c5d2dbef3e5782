/** The edges of promises 38 to 40, a test for each of the document's sentences that names one. */
public final class SheetsEdgesTest {
    private static final int BAD = SaidRate.BAD, NOT = SaidRate.NOT;
    private static final int NULL = SaidRate.NULL, CAST = SaidRate.CAST, INDEX = SaidRate.INDEX, SIZE = SaidRate.SIZE;
    /** The greatest of each LANE. */
    private static final int[] GREATEST = {127, 32767, Edges.MAX};

    public static void main(String[] args) {
        sheet();
        sheetRefused();
        drop();
        item();
        itemRefused();
        Edges.finish(38, 40);
    }

    private static void sheet() {
        Edges.test(38, "A SHEET holds a new row of a LANE: n.", () -> {
            SaidRate x = new SaidRate();
            for (int i = 0; i < 12; i++) {
                Edges.due("another LANE, another length", x.sheet(i / 3, i % 3, 16 - i), 16 - i);
            }
            for (int sheet = 0; sheet < 4; sheet++) {
                Edges.due("the last of each", x.drop(sheet), 14 - 3 * sheet);
            }
        });
        Edges.test(38, "a new row", () -> {
            SaidRate x = new SaidRate();
            x.sheet(0, 2, 16);
            for (int i = 0; i < 16; i++) {
                x.item(0, 2, i, 7);
            }
            x.sheet(0, 2, 16);
            Edges.due("noughts again", x.all(0, 0, 2, 0), 8);
            Edges.due("noughts again", x.all(1, 0, 2, 8), 8);
            for (int house = 0; house < 8; house++) {
                Edges.due("of the first 8", x.said(house, 0), 0);
                Edges.due("of the last 8", x.said(house, 1), 0);
            }
        });
        Edges.test(Edges.TERMS, "sheets 0 .. 3: nothing (at first), or a row of a LANE: 0 bytes, 1 shorts, 2 ints, of 0 to 16 items", () -> {
            for (int sheet = 0; sheet < 4; sheet++) {
                Edges.due("nothing at first", new SaidRate().drop(sheet), NULL);
                for (int lane = 0; lane < 3; lane++) {
                    SaidRate x = new SaidRate();
                    Edges.due("no items", x.sheet(sheet, lane, 0), 0);
                    Edges.due("a row, though without items", x.drop(sheet), 0);
                    Edges.due("16 items", x.sheet(sheet, lane, 16), 16);
                    Edges.due("the sixteenth", x.item(sheet, lane, 15, 1), 1);
                }
            }
        });
    }

    private static void sheetRefused() {
        Edges.test(38, "BAD: also n above 16", () -> {
            for (int v : new int[] {17, 18, 256, 272, 65536, Edges.MAX}) {
                Edges.refused("n " + v, BAD, Edges::busy, x -> x.sheet(0, 0, v));
            }
            Edges.range("sheet", 0, 3, BAD, (x, v) -> x.sheet(v, 0, 16));
            Edges.range("lane", 0, 2, BAD, (x, v) -> x.sheet(0, v, 0));
            Edges.due("where nothing was", new SaidRate().sheet(0, 0, 17), BAD);
        });
        Edges.test(38, "SIZE: n below 0", () -> {
            for (int v : new int[] {-1, -2, -256, -65536, Edges.MIN}) {
                Edges.refused("n " + v, SIZE, Edges::busy, x -> x.sheet(0, 0, v));
            }
            SaidRate x = new SaidRate();
            Edges.due("where nothing was", x.sheet(0, 0, -1), SIZE);
            Edges.due("still nothing", x.drop(0), NULL);
        });
        Edges.test(Edges.TERMS, "SIZE in this order, behind BAD", () -> {
            Edges.due("a BAD sheet ahead of SIZE", new SaidRate().sheet(4, 0, -1), BAD);
            Edges.due("a BAD lane ahead of SIZE", new SaidRate().sheet(0, 3, -1), BAD);
        });
    }

    private static void drop() {
        Edges.test(39, "A SHEET holds nothing: how many items it had.", () -> {
            for (int n = 0; n <= 16; n++) {
                SaidRate x = new SaidRate();
                x.sheet(3, 2, n);
                Edges.due("how many", x.drop(3), n);
                Edges.due("nothing", x.item(3, 2, 0, 1), NULL);
                Edges.due("nothing", x.all(0, 3, 2, 0), NULL);
            }
        });
        Edges.test(39, "BAD", () -> {
            Edges.range("sheet", 0, 3, BAD, (x, v) -> x.drop(v));
            Edges.due("BAD ahead of NULL", new SaidRate().drop(4), BAD);
        });
        Edges.test(39, "NULL", () -> {
            SaidRate x = new SaidRate();
            Edges.due("at first", x.drop(0), NULL);
            x.sheet(0, 0, 16);
            x.sheet(1, 0, 16);
            Edges.due("once", x.drop(0), 16);
            Edges.due("twice", x.drop(0), NULL);
            Edges.due("another SHEET stays", x.drop(1), 16);
        });
    }

    /** What HOUSE 0 SAID by an item that became v; NOT if that could not be SAID. */
    private static int saidBy(int lane, int v) {
        SaidRate x = new SaidRate();
        x.sheet(0, lane, 8);
        x.item(0, lane, 0, v);
        return x.all(0, 0, lane, 0) == 8 ? x.said(0, 0) : NOT;
    }

    private static void item() {
        Edges.test(40, "becomes v, its lowest bits: 1.", () -> {
            for (int lane = 0; lane < 3; lane++) {
                SaidRate x = new SaidRate();
                x.sheet(0, lane, 1);
                for (int v : new int[] {Edges.MIN, -1, 0, 999, Edges.MAX}) {
                    Edges.due("any v", x.item(0, lane, 0, v), 1);
                }
            }
        });
        Edges.test(40, "its lowest bits", () -> {
            int[] modulus = {256, 65536};
            for (int lane = 0; lane < 2; lane++) {
                Edges.due("the greatest and one more is the least", saidBy(lane, GREATEST[lane] + 1), NOT);
                Edges.due("all ones", saidBy(lane, modulus[lane] - 1), -1);
                Edges.due("one bit too high", saidBy(lane, modulus[lane]), 0);
                Edges.due("one bit too high, and 5", saidBy(lane, modulus[lane] + 5), 5);
                Edges.due("below 0, and 5", saidBy(lane, 5 - modulus[lane]), 5);
                Edges.due("the least int", saidBy(lane, Edges.MIN), 0);
                Edges.due("the greatest int", saidBy(lane, Edges.MAX), -1);
            }
            Edges.due("the greatest byte", saidBy(0, 127), 127);
            Edges.due("a byte of 128", saidBy(0, 128), NOT);
            Edges.due("a byte of -2", saidBy(0, 254), NOT);
            Edges.due("a byte of 999", saidBy(0, 999), NOT);
            Edges.due("a byte of 1000", saidBy(0, 1000), NOT);
            Edges.due("a byte of -129", saidBy(0, -129), 127);
            Edges.due("a short of 999", saidBy(1, 999), 999);
            Edges.due("a short of 255", saidBy(1, 255), 255);
            Edges.due("an int of 65536", saidBy(2, 65536), NOT);
            Edges.due("an int of 65535", saidBy(2, 65535), NOT);
            Edges.due("the least int", saidBy(2, Edges.MIN), NOT);
            Edges.due("the greatest int", saidBy(2, Edges.MAX), NOT);
        });
        Edges.test(40, "Item i of a SHEET", () -> {
            SaidRate x = new SaidRate();
            x.sheet(0, 1, 8);
            x.item(0, 1, 7, 500);
            x.all(0, 0, 1, 0);
            Edges.due("the last", x.said(7, 0), 500);
            Edges.due("the one ahead of it", x.said(6, 0), 0);
            x.item(0, 1, 0, 400);
            x.all(0, 0, 1, 0);
            Edges.due("the first", x.said(0, 0), 400);
            Edges.due("the last stays", x.said(7, 0), 500);
        });
    }

    private static void itemRefused() {
        Edges.test(40, "BAD", () -> {
            Edges.range("sheet", 0, 3, BAD, (x, v) -> x.item(v, 0, 0, 1));
            Edges.range("lane", 0, 2, BAD, (x, v) -> x.item(2, v, 0, 1));
        });
        Edges.test(40, "NULL", () -> {
            for (int sheet = 0; sheet < 4; sheet++) {
                Edges.due("at first", new SaidRate().item(sheet, 2, 0, 1), NULL);
            }
        });
        Edges.test(40, "CAST", () -> {
            for (int pair = 0; pair < 9; pair++) {
                int sheet = pair / 3;
                int lane = pair % 3;
                if (lane != sheet) {
                    Edges.refused("SHEET " + sheet + " as LANE " + lane, CAST, Edges::busy, x -> x.item(sheet, lane, 0, 1));
                }
            }
            SaidRate x = new SaidRate();
            x.sheet(0, 0, 16);
            x.sheet(0, 1, 16);
            Edges.due("the LANE it had", x.item(0, 0, 0, 1), CAST);
            Edges.due("the LANE it has", x.item(0, 1, 0, 1), 1);
        });
        Edges.test(Edges.TERMS, "CAST -12 (of SHEETS another LANE)", () -> {
            for (int pair = 0; pair < 9; pair++) {
                SaidRate x = new SaidRate();
                x.sheet(0, pair / 3, 16);
                Edges.due("item, LANE " + pair / 3 + " as " + pair % 3, x.item(0, pair % 3, 0, 1), pair / 3 == pair % 3 ? 1 : -12);
                Edges.due("all, LANE " + pair / 3 + " as " + pair % 3, x.all(0, 0, pair % 3, 0), pair / 3 == pair % 3 ? 8 : -12);
            }
        });
        Edges.test(40, "INDEX", () -> {
            Edges.range("i, of 16", 0, 15, INDEX, (x, v) -> x.item(0, 0, v, 1));
            Edges.range("i, of 8", 0, 7, INDEX, (x, v) -> x.item(3, 0, v, 1));
            SaidRate x = new SaidRate();
            x.sheet(0, 0, 16);
            x.sheet(0, 0, 1);
            Edges.due("of one item", x.item(0, 0, 0, 1), 1);
            Edges.due("a place it had", x.item(0, 0, 1, 1), INDEX);
            x.sheet(0, 0, 0);
            Edges.due("of no items", x.item(0, 0, 0, 1), INDEX);
        });
        Edges.test(Edges.TERMS, "(NULL, CAST, INDEX, SIZE in this order, behind BAD)", () -> {
            SaidRate x = new SaidRate();
            x.sheet(1, 1, 1);
            Edges.due("BAD ahead of NULL", x.item(0, 3, 0, 1), BAD);
            Edges.due("BAD ahead of CAST", x.item(1, 3, 0, 1), BAD);
            Edges.due("BAD ahead of INDEX", x.item(1, -1, 1, 1), BAD);
            Edges.due("NULL ahead of INDEX", x.item(0, 1, -1, 1), NULL);
            Edges.due("CAST ahead of INDEX", x.item(1, 2, 1, 1), CAST);
            Edges.due("INDEX", x.item(1, 1, 1, 1), INDEX);
        });
    }
}
