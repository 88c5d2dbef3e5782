import java.lang.reflect.Method;
import java.math.BigInteger;
import java.util.ArrayList;
import java.util.Arrays;
import java.util.Comparator;
import java.util.List;
import java.util.Random;

/** Random runs of calls against a model that takes the document's words the slow way, group by group. */
public final class ModelTest {
    private static final long FAR = 1L << 40;

    public static void main(String[] args) throws Exception {
        Method[] calls = Arrays.stream(SaidRate.class.getDeclaredMethods())
            .filter(m -> java.lang.reflect.Modifier.isPublic(m.getModifiers()))
            .sorted(Comparator.comparing(Method::getName)).toArray(Method[]::new);
        int wrong = 0;
        for (int run = 0; run < 1600 && wrong < 20; run++) {
            wrong += compare(run, calls);
        }
        System.out.println(wrong == 0 ? "as the model answers" : wrong + " runs went astray");
        if (wrong != 0) {
            System.exit(1);
        }
    }

    private static int compare(int run, Method[] calls) throws Exception {
        Random random = new Random(run);
        Chooser chooser = new Chooser(random, run % (Chooser.PARTS.length + 1));
        SaidRate x = new SaidRate();
        Model model = new Model();
        StringBuilder told = new StringBuilder();
        for (int i = 0; i < 512; i++) {
            Method call = chooser.callOf(calls);
            Object[] with = chooser.argumentsOf(call, model);
            Method twin = Model.class.getDeclaredMethod(call.getName(), call.getParameterTypes());
            long due = ((Number) twin.invoke(model, with)).longValue();
            long got = ((Number) call.invoke(x, with)).longValue();
            told.append(call.getName()).append(Arrays.toString(with)).append(" = ").append(got).append('\n');
            if (got != due) {
                System.out.println("run " + run + ", call " + i + ": due is " + due);
                int from = Math.max(0, told.length() - 3000);
                System.out.println(told.substring(from));
                return 1;
            }
        }
        return 0;
    }

    /** Picks calls and arguments so that they meet: few MORNINGS, few numbers, a wrong one now and then. */
    private static final class Chooser {
        /** Runs that dwell on one part of the document fill it more densely than runs over all of it. */
        private static final String[] PARTS = {
            "say say say say said all type rules rules rule rate thrown reach move many many",
            "desk desk contract contract contract gain gain paid unlike count say say say",
            "say say say lent lent truth out right lost lean lean run run untrue backed desk contract contract",
            "desk word word word wall wall crossed knew knew way way way",
            "desk owe owe owe owe net ringed",
            "say say say say rules best worst worst",
            "sheet item item item item item item all said said said drop"};

        private final Random random;
        /** Empty for a run over all parts alike. */
        private final String[] part;
        private final int lane;
        private final boolean smallItems;
        private final int mornings;
        private final int base;
        private final int width;
        private final int wrongOnes;
        private final String[] clauses = {"c0", "c1", "c2", "c3", "l1", "l2", "l8", "s0", "s99", "s5", "c", "l0", "s100", "x", "", " c 2 ", "c1 1",
            " s 09"};
        /** What is still to be typed of a text (the number w, how many of its bytes), and the calls behind that. */
        private final List<Object[]> typing = new ArrayList<>();
        private final List<String> later = new ArrayList<>();

        Chooser(Random random, int part) {
            this.random = random;
            this.part = part == PARTS.length ? new String[0] : PARTS[part].split(" ");
            lane = random.nextInt(3);
            smallItems = random.nextBoolean();
            mornings = 1 + random.nextInt(random.nextBoolean() ? 3 : 30);
            base = random.nextInt(1000);
            width = 1 + random.nextInt(random.nextBoolean() ? 30 : 1000);
            // at 2, two of one call's numbers are often wrong, and the order of refusals is seen
            wrongOnes = new int[] {40, 12, 40, 2}[random.nextInt(4)];
        }

        Method callOf(Method[] calls) {
            String[] often = {"say", "say", "say", "desk", "contract", "lent", "word", "owe", "sheet", "item", "item", "all", "type", "rules"};
            String name = random.nextInt(3) == 0 ? often[random.nextInt(often.length)] : calls[random.nextInt(calls.length)].getName();
            if (part.length > 0 && random.nextInt(8) != 0) {
                name = part[random.nextInt(part.length)];
            }
            if (!typing.isEmpty() || !later.isEmpty()) {
                name = typing.isEmpty() ? later.remove(0) : "type";
            } else if (name.equals("rules") && random.nextInt(8) != 0) {
                text();
                name = "type";
            }
            for (Method call : calls) {
                if (call.getName().equals(name)) {
                    return call;
                }
            }
            throw new IllegalStateException(name);
        }

        private void text() {
            StringBuilder text = new StringBuilder();
            int n = 1 + random.nextInt(6);
            for (int i = 0; i < n; i++) {
                text.append(i == 0 ? "" : ";").append(clauses[random.nextInt(random.nextInt(3) == 0 ? clauses.length : 10)]);
            }
            if (random.nextInt(3) == 0) {
                text.insert(random.nextInt(text.length() + 1), "  ;;cls0123456789xC~".charAt(random.nextInt(20)));
            }
            text.append(text.length() == 0 ? " " : "");
            for (int at = 0; at < text.length(); ) {
                int bytes = Math.min(1 + random.nextInt(8), text.length() - at);
                // bytes above those that are asked for are not looked at, so they may be anything
                long w = random.nextLong();
                for (int end = at + bytes; at < end; at++) {
                    w = w << 8 | text.charAt(at);
                }
                typing.add(new Object[] {w, bytes});
            }
            later.add("rules");
        }

        Object[] argumentsOf(Method call, Model model) {
            if (call.getName().equals("type") && !typing.isEmpty()) {
                return typing.remove(0);
            }
            Class<?>[] types = call.getParameterTypes();
            Object[] with = new Object[types.length];
            String kinds = kindsOf(call.getName());
            for (int i = 0; i < types.length; i++) {
                if (types[i] == boolean.class) {
                    with[i] = random.nextBoolean();
                } else if (types[i] == long.class) {
                    with[i] = 0x2020202020202020L + random.nextInt(97);
                } else {
                    with[i] = random.nextInt(wrongOnes * types.length) == 0 ? wrongOne() : number(kinds.charAt(i), model);
                }
            }
            return with;
        }

        private int wrongOne() {
            int[] edges = {-1, -2, 0, 1, 2, 3, 4, 5, 8, 12, 16, 17, 30, 99, 100, 255, 256, 999, 1000, Integer.MIN_VALUE, Integer.MAX_VALUE};
            return edges[random.nextInt(edges.length)];
        }

        /** Now and then a number whose higher bits a LANE does not hold. */
        private int item() {
            if (random.nextInt(60) == 0) {
                return random.nextInt();
            }
            int v = random.nextInt(smallItems ? 129 : 1001) - 1;
            return random.nextInt(10) == 0 ? v + (random.nextInt() << 16) : random.nextInt(10) == 0 ? v + (random.nextInt(9) << 8) : v;
        }

        private static String kindsOf(String name) {
            switch (name) {
                case "say": return "hmv";
                case "said": case "thrown": case "out": return "hm";
                case "all": return "mslf";
                case "type": return "w8";
                case "rules": return "m";
                case "rule": return "m3";
                case "rate": case "right": return "m2";
                case "reach": return "hm22";
                case "move": return "gm22";
                case "many": return "m2t";
                case "desk": return "h";
                case "contract": return "ddmzv";
                case "gain": case "paid": case "lost": return "dm2";
                case "unlike": case "crossed": return "m";
                case "count": return "6";
                case "lent": return "hmv";
                case "truth": return "hm2";
                case "lean": return "h4";
                case "run": return "mv";
                case "untrue": case "backed": return "r";
                case "word": return "ddmu";
                case "wall": return "dd-";
                case "knew": return "dmu";
                case "way": return "ddm";
                case "owe": return "ddo";
                case "net": return "d";
                case "ringed": return "";
                case "best": return "4mm";
                case "worst": return "4mm2";
                case "sheet": return "sln";
                case "drop": return "s";
                case "item": return "slip";
                default: throw new IllegalStateException(name);
            }
        }

        private int number(char kind, Model model) {
            switch (kind) {
                case 'h': return random.nextInt(8);
                case 'm': return random.nextInt(mornings);
                case 'v': return random.nextInt(15) == 0 ? random.nextInt(1000) : Math.min(999, base + random.nextInt(width));
                case 's': return random.nextInt(2);
                case 'l': return random.nextInt(4) == 0 ? random.nextInt(3) : lane;
                case 'f': return random.nextInt(random.nextBoolean() ? 2 : 10);
                case 'g': return 1 + random.nextInt(255);
                case 't': return 1 + random.nextInt(random.nextBoolean() ? 20 : 999);
                case 'd': return model.deskHouses.isEmpty() ? 0 : random.nextInt(model.deskHouses.size());
                case 'z': return 1 + random.nextInt(99);
                case 'r': return model.runs.isEmpty() ? 0 : random.nextInt(model.runs.size());
                case 'u': return random.nextInt(width);
                case 'o': return random.nextInt(3) == 0 ? random.nextInt(100) : 0;
                case 'n': return random.nextInt(3) == 0 ? random.nextInt(17) : 8 + random.nextInt(9);
                case 'i': return random.nextInt(12);
                case 'p': return item();
                default: return random.nextInt(kind - '0');
            }
        }
    }

    /** A fraction of big numbers; null stands for none. */
    private record Ratio(BigInteger above, BigInteger below) {
        static Ratio of(long a, long b) {
            return new Ratio(BigInteger.valueOf(a), BigInteger.valueOf(b));
        }

        Ratio minus(Ratio r) {
            return new Ratio(above.multiply(r.below).subtract(r.above.multiply(below)), below.multiply(r.below));
        }

        Ratio plus(Ratio r) {
            return minus(new Ratio(r.above.negate(), r.below));
        }

        Ratio times(long n) {
            return new Ratio(above.multiply(BigInteger.valueOf(n)), below);
        }

        int compare(Ratio r) {
            return minus(r).above.signum();
        }

        long told(int what) {
            BigInteger g = above.gcd(below);
            return (what == 0 ? above : below).divide(g).longValueExact();
        }
    }

    private static final class Model {
        private final int[][] said = new int[8][30];
        private StringBuilder tape = new StringBuilder();
        private final List<int[]> editions = new ArrayList<>();
        private final List<Integer> deskHouses = new ArrayList<>();
        private final List<int[]> contracts = new ArrayList<>();
        private final List<int[]> lent = new ArrayList<>();
        private final List<int[]> runs = new ArrayList<>();
        private final List<int[]> words = new ArrayList<>();
        private final List<String> walls = new ArrayList<>();
        private final int[][] owed = new int[12][12];
        private final Object[] sheets = new Object[4];

        Model() {
            for (int[] row : said) {
                Arrays.fill(row, -1);
            }
        }

        private static boolean in(int v, int low, int high) {
            return low <= v && v <= high;
        }

        private static boolean hm(int h, int m) {
            return in(h, 0, 7) && in(m, 0, 29);
        }

        private boolean isDesk(int d) {
            return in(d, 0, deskHouses.size() - 1);
        }

        private int[] row(int m) {
            int[] row = new int[8];
            for (int h = 0; h < 8; h++) {
                row[h] = said[h][m];
            }
            return row;
        }

        private static List<Integer> order(int[] row) {
            List<Integer> order = new ArrayList<>();
            for (int h = 0; h < 8; h++) {
                if (row[h] >= 0) {
                    order.add(h);
                }
            }
            order.sort(Comparator.<Integer>comparingInt(h -> row[h]).thenComparingInt(h -> h));
            return order;
        }

        private static Ratio mean(int[] row, int cut, int least) {
            List<Integer> order = order(row);
            if (order.size() < least || order.size() <= 2 * cut) {
                return null;
            }
            List<Integer> left = order.subList(cut, order.size() - cut);
            return Ratio.of(left.stream().mapToInt(h -> row[h]).sum(), left.size());
        }

        private Ratio mean(int[] row, int m) {
            return mean(row, rule(m, 0), rule(m, 1));
        }

        private static Ratio moved(int[] row, int group, int way, int cut, int least) {
            int[] other = row.clone();
            for (int h = 0; h < 8; h++) {
                if ((group & 1 << h) != 0 && other[h] >= 0) {
                    other[h] = way * 999;
                }
            }
            Ratio is = mean(row, cut, least);
            Ratio were = mean(other, cut, least);
            return is == null ? null : way == 0 ? is.minus(were) : were.minus(is);
        }

        private static long told(Ratio r, int what) {
            return r == null ? -4 - FAR : r.told(what);
        }

        int say(int h, int m, int v) {
            if (!hm(h, m) || !in(v, -1, 999)) {
                return -11;
            }
            int was = said[h][m];
            said[h][m] = v;
            return was;
        }

        int said(int h, int m) {
            return hm(h, m) ? said[h][m] : -11;
        }

        private int lookAt(int sheet, int lane) {
            if (!in(sheet, 0, 3) || !in(lane, 0, 2)) {
                return -1;
            }
            if (sheets[sheet] == null) {
                return -11;
            }
            Class<?>[] lanes = {byte[].class, short[].class, int[].class};
            return lanes[lane].isInstance(sheets[sheet]) ? 0 : -12;
        }

        int all(int m, int sheet, int lane, int from) {
            if (!in(m, 0, 29)) {
                return -1;
            }
            if (lookAt(sheet, lane) != 0) {
                return lookAt(sheet, lane);
            }
            int[] got = new int[8];
            for (int i = 0; i < 8; i++) {
                long at = (long) from + i;
                if (at < 0 || at >= java.lang.reflect.Array.getLength(sheets[sheet])) {
                    return -13;
                }
                got[i] = java.lang.reflect.Array.getInt(sheets[sheet], (int) at);
            }
            if (!Arrays.stream(got).allMatch(v -> in(v, -1, 999))) {
                return -2;
            }
            for (int h = 0; h < 8; h++) {
                said[h][m] = got[h];
            }
            return 8;
        }

        int type(long w, int n) {
            if (!in(n, 1, 8)) {
                return -1;
            }
            StringBuilder bytes = new StringBuilder();
            for (int i = 0; i < n; i++) {
                long b = Math.floorMod(w, 256);
                w = Math.floorDiv(w, 256);
                if (b < 32 || b > 126) {
                    return -1;
                }
                bytes.insert(0, (char) b);
            }
            if (tape.length() + n > 40) {
                return -3;
            }
            tape.append(bytes);
            return tape.length();
        }

        /** Sign by sign: what may stand at a place is told by the state that the signs ahead left. */
        int rules(int from) {
            if (!in(from, 0, 29) || !editions.isEmpty() && from < editions.get(editions.size() - 1)[3]) {
                return -1;
            }
            String text = tape.toString();
            tape = new StringBuilder();
            int[] next = editions.isEmpty() ? new int[] {1, 3, 20, from} : editions.get(editions.size() - 1).clone();
            next[3] = from;
            int state = 0;
            int what = 0;
            int clauses = 0;
            for (int i = 0; i < text.length(); i++) {
                char c = text.charAt(i);
                boolean digit = c >= '0' && c <= '9';
                if (c == ' ') {
                    continue;
                }
                if (state == 0 && "cls".indexOf(c) >= 0) {
                    what = "cls".indexOf(c);
                    state = 1;
                } else if (state == 1 && digit) {
                    int end = i;
                    while (end < text.length() && text.charAt(end) >= '0' && text.charAt(end) <= '9') {
                        end++;
                    }
                    BigInteger value = new BigInteger(text.substring(i, end));
                    int low = what == 1 ? 1 : 0;
                    int high = new int[] {3, 8, 99}[what];
                    if (value.compareTo(BigInteger.valueOf(low)) < 0 || value.compareTo(BigInteger.valueOf(high)) > 0) {
                        return -20 - i;
                    }
                    next[what] = value.intValue();
                    i = end - 1;
                    clauses++;
                    state = 2;
                } else if (state == 2 && c == ';' && clauses < 5) {
                    state = 0;
                } else {
                    return -20 - i;
                }
            }
            if (state != 2) {
                return -20 - text.length();
            }
            if (editions.size() == 4) {
                return -3;
            }
            editions.add(next);
            return editions.size() - 1;
        }

        int rule(int m, int what) {
            if (!in(m, 0, 29) || !in(what, 0, 2)) {
                return -1;
            }
            int value = new int[] {1, 3, 20}[what];
            for (int[] edition : editions) {
                value = edition[3] <= m ? edition[what] : value;
            }
            return value;
        }

        long rate(int m, int what) {
            return !in(m, 0, 29) || !in(what, 0, 1) ? -1 - FAR : told(mean(row(m), m), what);
        }

        int thrown(int h, int m) {
            if (!hm(h, m)) {
                return -11;
            }
            if (said[h][m] < 0) {
                return -12;
            }
            if (mean(row(m), m) == null) {
                return -14;
            }
            List<Integer> order = order(row(m));
            int at = order.indexOf(h);
            return at < rule(m, 0) ? -1 : at >= order.size() - rule(m, 0) ? 1 : 0;
        }

        long reach(int h, int m, int end, int what) {
            if (!hm(h, m) || !in(end, 0, 1) || !in(what, 0, 1)) {
                return -1 - FAR;
            }
            int[] row = row(m);
            row[h] = 999 * end;
            return told(mean(row, m), what);
        }

        long move(int group, int m, int way, int what) {
            if (!in(group, 1, 255) || !in(m, 0, 29) || !in(way, 0, 1) || !in(what, 0, 1)) {
                return -1 - FAR;
            }
            return told(moved(row(m), group, way, rule(m, 0), rule(m, 1)), what);
        }

        int many(int m, int way, int v) {
            if (!in(m, 0, 29) || !in(way, 0, 1) || !in(v, 1, 999)) {
                return -1;
            }
            for (int size = 1; size <= 8; size++) {
                for (int group = 1; group < 256; group++) {
                    int g = group;
                    boolean all = order(row(m)).stream().mapToInt(h -> g >> h & 1).sum() == size && Integer.bitCount(g) == size;
                    Ratio r = all ? moved(row(m), group, way, rule(m, 0), rule(m, 1)) : null;
                    if (r != null && r.compare(Ratio.of(v, 1)) >= 0) {
                        return group;
                    }
                }
            }
            return -4;
        }

        int desk(int h) {
            if (!in(h, 0, 7)) {
                return -1;
            }
            if (deskHouses.size() == 12) {
                return -3;
            }
            deskHouses.add(h);
            return deskHouses.size() - 1;
        }

        private static int add(List<int[]> list, int most, int... row) {
            if (list.size() == most) {
                return -3;
            }
            list.add(row);
            return list.size() - 1;
        }

        int contract(int a, int b, int m, int size, int strike) {
            if (!isDesk(a) || !isDesk(b) || a == b || !in(m, 0, 29) || !in(size, 1, 99) || !in(strike, 0, 999)) {
                return -1;
            }
            return add(contracts, 24, a, b, m, size, strike);
        }

        int gain(int d, int m, int which) {
            if (!isDesk(d) || !in(m, 0, 29) || !in(which, 0, 1)) {
                return -10001;
            }
            int sum = 0;
            for (int[] c : contracts) {
                boolean gets = which == 0 ? c[0] == d : deskHouses.get(c[0]).equals(deskHouses.get(d));
                boolean gives = which == 0 ? c[1] == d : deskHouses.get(c[1]).equals(deskHouses.get(d));
                sum += c[2] != m ? 0 : (gets ? c[3] : 0) - (gives ? c[3] : 0);
            }
            return sum;
        }

        private Ratio paidBy(Ratio rate, int d, int m) {
            Ratio sum = Ratio.of(0, 1);
            for (int[] c : contracts) {
                int sign = c[0] == d ? 1 : c[1] == d ? -1 : 0;
                if (rate != null && c[2] == m) {
                    sum = sum.plus(rate.minus(Ratio.of(c[4], 1)).times(sign * c[3]));
                }
            }
            return sum;
        }

        long paid(int d, int m, int what) {
            if (!isDesk(d) || !in(m, 0, 29) || !in(what, 0, 1)) {
                return -1 - FAR;
            }
            return paidBy(mean(row(m), m), d, m).told(what);
        }

        int unlike(int m) {
            if (!in(m, 0, 29)) {
                return -1;
            }
            int bits = 0;
            for (int a = 0; a < deskHouses.size(); a++) {
                for (int b = 0; b < deskHouses.size(); b++) {
                    if (deskHouses.get(a).equals(deskHouses.get(b)) && gain(a, m, 0) > 0 && gain(b, m, 0) < 0) {
                        bits |= 1 << deskHouses.get(a);
                    }
                }
            }
            return bits;
        }

        int count(int what) {
            return in(what, 0, 5) ? List.of(deskHouses, contracts, lent, runs, words, editions).get(what).size() : -1;
        }

        int lent(int h, int m, int at) {
            return !hm(h, m) || !in(at, 0, 999) ? -1 : add(lent, 60, h, m, at);
        }

        private int[] span(int h, int m) {
            int[] own = lent.stream().filter(r -> r[0] == h && r[1] == m).mapToInt(r -> r[2]).sorted().toArray();
            int[] all = lent.stream().filter(r -> r[1] == m).mapToInt(r -> r[2]).sorted().toArray();
            if (own.length > 0) {
                return new int[] {own[0], own[own.length - 1]};
            }
            int s = rule(m, 2);
            return all.length == 0 ? null : new int[] {Math.max(0, all[0] - s), Math.min(999, all[all.length - 1] + s)};
        }

        int truth(int h, int m, int end) {
            if (!hm(h, m) || !in(end, 0, 1)) {
                return -1;
            }
            return span(h, m) == null ? -4 : span(h, m)[end];
        }

        int out(int h, int m) {
            if (!hm(h, m)) {
                return -11;
            }
            int[] span = span(h, m);
            return span == null || said[h][m] < 0 ? 0 : said[h][m] > span[1] ? 1 : said[h][m] < span[0] ? -1 : 0;
        }

        private Ratio rightOf(int m) {
            int[] row = row(m);
            for (int h = 0; h < 8; h++) {
                if (out(h, m) != 0) {
                    int[] span = span(h, m);
                    row[h] = Math.abs(row[h] - span[0]) < Math.abs(row[h] - span[1]) ? span[0] : span[1];
                }
            }
            return mean(row, m);
        }

        long right(int m, int what) {
            return !in(m, 0, 29) || !in(what, 0, 1) ? -1 - FAR : told(rightOf(m), what);
        }

        long lost(int d, int m, int what) {
            if (!isDesk(d) || !in(m, 0, 29) || !in(what, 0, 1)) {
                return -1 - FAR;
            }
            return paidBy(rightOf(m), d, m).minus(paidBy(mean(row(m), m), d, m)).told(what);
        }

        int lean(int h, int what) {
            if (!in(h, 0, 7) || !in(what, 0, 3)) {
                return -1;
            }
            int n = 0;
            int with = 0;
            int fear = 0;
            for (int m = 0; m < 30; m++) {
                int d = deskHouses.indexOf(h);
                int g = d < 0 ? 0 : gain(d, m, 1);
                int o = out(h, m);
                n += o != 0 && g != 0 ? 1 : 0;
                with += o > 0 && g > 0 || o < 0 && g < 0 ? 1 : 0;
                fear += o < 0 && g >= 0 ? 1 : 0;
            }
            return new int[] {n, with, chance(n, with), fear}[what];
        }

        private static int chance(int n, int with) {
            BigInteger[] ways = {BigInteger.ONE};
            for (int i = 0; i < n; i++) {
                BigInteger[] next = new BigInteger[ways.length + 1];
                for (int k = 0; k < next.length; k++) {
                    next[k] = (k > 0 ? ways[k - 1] : BigInteger.ZERO).add(k < ways.length ? ways[k] : BigInteger.ZERO);
                }
                ways = next;
            }
            BigInteger sum = BigInteger.ZERO;
            for (int k = with; k <= n; k++) {
                sum = sum.add(ways[k]);
            }
            return sum.multiply(BigInteger.valueOf(1000)).divide(BigInteger.TWO.pow(n)).intValue();
        }

        int run(int m, int price) {
            return !in(m, 0, 29) || !in(price, 0, 999) ? -1 : add(runs, 20, m, price);
        }

        int untrue(int run) {
            if (!in(run, 0, runs.size() - 1)) {
                return -1;
            }
            int[] r = runs.get(run);
            boolean some = lent.stream().anyMatch(l -> l[1] == r[0]);
            boolean below = lent.stream().anyMatch(l -> l[1] == r[0] && l[2] <= r[1]);
            boolean above = lent.stream().anyMatch(l -> l[1] == r[0] && l[2] >= r[1]);
            return some && !(below && above) ? 1 : 0;
        }

        int backed(int run) {
            if (!in(run, 0, runs.size() - 1)) {
                return -1;
            }
            int[] r = runs.get(run);
            int bits = 0;
            for (int h = 0; h < 8; h++) {
                bits += said[h][r[0]] == r[1] && out(h, r[0]) != 0 ? 1 << h : 0;
            }
            return bits;
        }

        int word(int a, int b, int m, int minute) {
            return !isDesk(a) || !isDesk(b) || a == b || !in(m, 0, 29) || !in(minute, 0, 999) ? -1 : add(words, 40, a, b, m, minute);
        }

        private static String between(int a, int b) {
            return Math.min(a, b) + " " + Math.max(a, b);
        }

        int wall(int a, int b, boolean is) {
            if (!isDesk(a) || !isDesk(b) || a == b || !deskHouses.get(a).equals(deskHouses.get(b))) {
                return -1;
            }
            boolean was = walls.remove(between(a, b));
            if (is) {
                walls.add(between(a, b));
            }
            return was ? 1 : 0;
        }

        int crossed(int m) {
            return in(m, 0, 29) ? (int) words.stream().filter(w -> w[2] == m && walls.contains(between(w[0], w[1]))).count() : -1;
        }

        /** Of each WORD, in the order of MINUTES, the fewest WORDS of a chain that ends with it; 99 for none. */
        private int[] fewest(int d, int m, int minute) {
            int[] fewest = new int[12];
            Arrays.fill(fewest, 99);
            fewest[d] = 0;
            List<int[]> ends = new ArrayList<>();
            List<int[]> sorted = new ArrayList<>(words);
            sorted.sort(Comparator.comparingInt(w -> w[3]));
            for (int[] w : sorted) {
                if (w[2] != m || w[3] > minute) {
                    continue;
                }
                int least = w[0] == d ? 1 : 99;
                for (int[] e : ends) {
                    if (e[0] == w[0] && e[1] < w[3]) {
                        least = Math.min(least, e[2] + 1);
                    }
                }
                if (least < 99) {
                    ends.add(new int[] {w[1], w[3], least});
                    fewest[w[1]] = Math.min(fewest[w[1]], least);
                }
            }
            return fewest;
        }

        int knew(int d, int m, int minute) {
            if (!isDesk(d) || !in(m, 0, 29) || !in(minute, 0, 999)) {
                return -1;
            }
            int bits = 0;
            for (int k = 0; k < 12; k++) {
                bits += fewest(d, m, minute)[k] < 99 ? 1 << k : 0;
            }
            return bits;
        }

        int way(int a, int b, int m) {
            if (!isDesk(a) || !isDesk(b) || !in(m, 0, 29)) {
                return -1;
            }
            int n = fewest(a, m, 999)[b];
            return n < 99 ? n : -4;
        }

        int owe(int a, int b, int n) {
            if (!isDesk(a) || !isDesk(b) || a == b || !in(n, 0, 99)) {
                return -1;
            }
            int was = owed[a][b];
            owed[a][b] = n;
            return was;
        }

        int net(int d) {
            if (!isDesk(d)) {
                return -10001;
            }
            int to = 0;
            for (int[] row : owed) {
                to += row[d];
            }
            return to - Arrays.stream(owed[d]).sum();
        }

        private boolean leads(int a, int b, boolean[] seen) {
            if (a == b) {
                return true;
            }
            seen[a] = true;
            for (int c = 0; c < 12; c++) {
                if (owed[a][c] > 0 && !seen[c] && leads(c, b, seen)) {
                    return true;
                }
            }
            return false;
        }

        int ringed() {
            int bits = 0;
            for (int a = 0; a < 12; a++) {
                for (int b = 0; b < 12; b++) {
                    if (a != b && leads(a, b, new boolean[12]) && leads(b, a, new boolean[12])) {
                        bits |= 1 << a;
                    }
                }
            }
            return bits;
        }

        private Ratio greatest(int g, int from, int to, int cut) {
            Ratio greatest = null;
            for (int m = from; m <= to; m++) {
                for (int group = 1; group < 256; group++) {
                    for (int way = 0; way < 2 && Integer.bitCount(group) == g; way++) {
                        Ratio r = moved(row(m), group, way, cut, rule(m, 1));
                        greatest = r != null && (greatest == null || r.compare(greatest) > 0) ? r : greatest;
                    }
                }
            }
            return greatest;
        }

        int best(int g, int from, int to) {
            if (!in(g, 1, 4) || !in(from, 0, 29) || !in(to, 0, 29) || from > to) {
                return -1;
            }
            int best = -4;
            Ratio least = null;
            for (int cut = 0; cut < 4; cut++) {
                Ratio r = greatest(g, from, to, cut);
                if (r != null && (least == null || r.compare(least) < 0)) {
                    least = r;
                    best = cut;
                }
            }
            return best;
        }

        long worst(int g, int from, int to, int what) {
            int cut = in(what, 0, 1) ? best(g, from, to) : -1;
            return cut < 0 ? cut - FAR : greatest(g, from, to, cut).told(what);
        }

        int sheet(int sheet, int lane, int n) {
            if (!in(sheet, 0, 3) || !in(lane, 0, 2) || n > 16) {
                return -1;
            }
            if (n < 0) {
                return -14;
            }
            sheets[sheet] = lane == 0 ? new byte[n] : lane == 1 ? new short[n] : new int[n];
            return n;
        }

        int drop(int sheet) {
            if (!in(sheet, 0, 3)) {
                return -1;
            }
            if (sheets[sheet] == null) {
                return -11;
            }
            int had = java.lang.reflect.Array.getLength(sheets[sheet]);
            sheets[sheet] = null;
            return had;
        }

        int item(int sheet, int lane, int i, int v) {
            if (lookAt(sheet, lane) != 0) {
                return lookAt(sheet, lane);
            }
            if (!in(i, 0, java.lang.reflect.Array.getLength(sheets[sheet]) - 1)) {
                return -13;
            }
            if (sheets[sheet] instanceof byte[] bytes) {
                bytes[i] = (byte) v;
            } else if (sheets[sheet] instanceof short[] shorts) {
                shorts[i] = (short) v;
            } else if (sheets[sheet] instanceof int[] ints) {
                ints[i] = v;
            }
            return 1;
        }
    }
}
