import java.io.IOException;
import java.nio.file.Files;
import java.nio.file.Path;
import java.util.ArrayList;
import java.util.List;
import java.util.function.Supplier;
import java.util.regex.Matcher;
import java.util.regex.Pattern;

/** What the tests of edges share: the document's sentences, objects to try them on, and what can be seen of an object. */
final class Edges {
    static final int MIN = Integer.MIN_VALUE, MAX = Integer.MAX_VALUE;
    static final long FAR = 1099511627776L, BAD_FRACTION = -1099511627777L, NO_FRACTION = -1099511627780L;
    /** For sentences that stand ahead of the promises, in the document's terms. */
    static final int TERMS = 0;

    private static final int PROMISES = 40;
    private static final List<String> TEXTS = new ArrayList<>();
    private static final List<List<String>> TESTED = new ArrayList<>();
    private static String running = "";
    private static int checks = 0;
    private static int wrong = 0;

    interface Call {
        long on(SaidRate x);
    }

    interface CallWith {
        long on(SaidRate x, int v);
    }

    private Edges() {
    }

    // ---- tests

    /** A test of one sentence, which must stand in the document, under a promise's heading or in the terms. */
    static void test(int promise, String sentence, Runnable body) {
        readDocument();
        running = (promise == TERMS ? "terms" : "promise " + promise) + ", \"" + sentence + "\"";
        if (!TEXTS.get(promise).contains(sentence)) {
            fault("these words do not stand there");
        }
        TESTED.get(promise).add(sentence);
        int ahead = checks;
        body.run();
        if (checks == ahead) {
            fault("nothing is tested");
        }
    }

    /** Ends with 1 if an answer was not as due, or if a refusal that one of these promises names has no test. */
    static void finish(int first, int last) {
        for (int promise = first; promise <= last; promise++) {
            running = "promise " + promise;
            for (String name : refusalsOf(promise)) {
                if (TESTED.get(promise).stream().noneMatch(sentence -> sentence.contains(name))) {
                    fault("no test of " + name);
                }
            }
            if (TESTED.get(promise).isEmpty()) {
                fault("no test");
            }
        }
        int sentences = TESTED.stream().mapToInt(List::size).sum();
        System.out.println(sentences + " sentences, " + checks + " checks, " + wrong + " wrong");
        if (wrong != 0) {
            System.exit(1);
        }
    }

    private static List<String> refusalsOf(int promise) {
        List<String> names = new ArrayList<>();
        Matcher refusal = Pattern.compile("\\b(BAD|NOT|FULL|NONE|NULL|CAST|INDEX|SIZE|FAULT)\\b").matcher(TEXTS.get(promise));
        while (refusal.find()) {
            names.add(refusal.group());
        }
        return names;
    }

    private static void readDocument() {
        if (!TEXTS.isEmpty()) {
            return;
        }
        String document;
        try {
            document = Files.readString(Path.of("../shared/DOC.md")).replaceAll("\\s+", " ");
        } catch (IOException e) {
            throw new IllegalStateException(e);
        }
        int from = 0;
        for (int promise = 0; promise <= PROMISES; promise++) {
            int to = document.indexOf(promise < PROMISES ? "## Promise " + (promise + 1) + ":" : "## Not promised");
            TEXTS.add(document.substring(from, to));
            TESTED.add(new ArrayList<>());
            from = to;
        }
    }

    private static void fault(String what) {
        wrong++;
        System.out.println(running + ": " + what);
    }

    // ---- checks

    static void due(String what, long got, long want) {
        checks++;
        if (got != want) {
            fault(what + " answered " + got + ", due is " + want);
        }
    }

    static void dueFraction(String what, CallWith call, SaidRate x, long above, long below) {
        due(what + ", above", call.on(x, 0), above);
        due(what + ", below", call.on(x, 1), below);
    }

    /** A call that is refused, and leaves all that can be seen of the object as it was. */
    static void refused(String what, long want, Supplier<SaidRate> made, Call call) {
        SaidRate x = made.get();
        due(what, call.on(x), want);
        List<String> were = seen(made.get());
        List<String> are = seen(x);
        for (int i = 0; i < were.size(); i++) {
            if (!were.get(i).equals(are.get(i))) {
                fault(what + " changed " + were.get(i) + " to " + are.get(i));
            }
        }
    }

    /** One number of a call: the first and last of its range are taken; all beside them, near or far, are refused. */
    static void range(String what, int first, int last, long refusal, Supplier<SaidRate> made, CallWith call) {
        for (int v : new int[] {first, last}) {
            checks++;
            if (call.on(made.get(), v) == refusal) {
                fault(what + " " + v + " was refused");
            }
        }
        // the far ones are such as would come to be in the range if a few of their bits were lost
        int[] beside = {first - 1, last + 1, MIN, MAX, MIN + first, last + 32, first - 32, first + 256, first - 256, last + 65536, last - 65536};
        for (int v : beside) {
            if (v < first || v > last) {
                refused(what + " " + v, refusal, made, x -> call.on(x, v));
            }
        }
    }

    static void range(String what, int first, int last, long refusal, CallWith call) {
        range(what, first, last, refusal, Edges::busy, call);
    }

    // ---- objects

    static void say(SaidRate x, int morning, int... said) {
        for (int house = 0; house < said.length; house++) {
            x.say(house, morning, said[house]);
        }
    }

    static SaidRate saying(int morning, int... said) {
        SaidRate x = new SaidRate();
        say(x, morning, said);
        return x;
    }

    static void type(SaidRate x, String text) {
        for (int from = 0; from < text.length(); from += 8) {
            int to = Math.min(text.length(), from + 8);
            long w = 0;
            for (int i = from; i < to; i++) {
                w = w << 8 | text.charAt(i);
            }
            x.type(w, to - from);
        }
    }

    static int edition(SaidRate x, String text, int from) {
        type(x, text);
        return x.rules(from);
    }

    static SaidRate ruled(String text) {
        SaidRate x = new SaidRate();
        edition(x, text, 0);
        return x;
    }

    static SaidRate withDesks(int... houses) {
        SaidRate x = new SaidRate();
        for (int house : houses) {
            x.desk(house);
        }
        return x;
    }

    static SaidRate twelveDesks() {
        return withDesks(0, 1, 2, 3, 4, 5, 6, 7, 0, 1, 2, 3);
    }

    /** An object that holds some of everything, and has room for just one more of each. */
    static SaidRate busy() {
        return filled(1);
    }

    /** An object that has room for nothing. */
    static SaidRate full() {
        return filled(0);
    }

    /** DESK d is of HOUSE d % 4; CONTRACTS, LENT rows, RUNS and WORDS are on MORNINGS 0 .. 2; RULES change on 5, 10, 20. */
    private static SaidRate filled(int room) {
        SaidRate x = new SaidRate();
        for (int i = 0; i < 12 - room; i++) {
            x.desk(i % 4);
        }
        for (int i = 0; i < 24 - room; i++) {
            x.contract(i % 11, (i + 3) % 11, i % 3, 1 + i, 40 * i);
        }
        for (int i = 0; i < 60 - room; i++) {
            x.lent(i % 5, i % 3, 400 + i);
        }
        for (int i = 0; i < 20 - room; i++) {
            x.run(i % 3, 390 + 5 * i);
        }
        for (int i = 0; i < 40 - room; i++) {
            x.word(i % 11, (i + 1 + i % 4) % 11, i % 3, 25 * i);
        }
        for (int morning = 0; morning < 3; morning++) {
            say(x, morning, 390 + morning, 400, 425, 440, 470 - morning, 10, 980, morning == 2 ? -1 : 425);
        }
        x.wall(0, 4, true);
        x.wall(9, 1, true);
        for (int i = 0; i < 6; i++) {
            x.owe(i, i + 1, 10 + i);
        }
        x.owe(6, 4, 99);
        edition(x, "c2", 5);
        edition(x, "l2", 10);
        edition(x, "s7", 20);
        if (room == 0) {
            edition(x, "c1", 21);
        }
        for (int sheet = 0; sheet < 4; sheet++) {
            int lane = sheet % 3;
            x.sheet(sheet, lane, sheet == 3 ? 8 : 16);
            x.item(sheet, lane, 0, 100 + sheet);
            x.item(sheet, lane, 7, 120);
        }
        type(x, room == 0 ? "c0;l1;s1                               x" : "c0;l1;s1                               ");
        return x;
    }

    /** What can be seen of a busy or full object; THE TAPE and SHEETS can only be seen by changing more, so they come last. */
    private static List<String> seen(SaidRate x) {
        List<String> seen = new ArrayList<>();
        for (int morning = 0; morning < 3; morning++) {
            for (int house = 0; house < 8; house++) {
                see(seen, "said", house, morning, x.said(house, morning));
            }
            for (int house = 0; house < 8; house++) {
                see(seen, "truth", house, morning, x.truth(house, morning, 0) * 1000L + x.truth(house, morning, 1));
            }
            see(seen, "crossed", morning, 0, x.crossed(morning));
        }
        for (int morning = 4; morning < 30; morning += 5) {
            see(seen, "rule", morning, 0, x.rule(morning, 0) * 10000 + x.rule(morning, 1) * 1000 + x.rule(morning, 2));
        }
        for (int what = 0; what < 6; what++) {
            see(seen, "count", what, 0, x.count(what));
        }
        for (int desk = 0; desk < 12; desk++) {
            see(seen, "gain", desk, 0, x.gain(desk, 0, 0));
            see(seen, "paid", desk, 1, x.paid(desk, 1, 0));
            see(seen, "knew", desk, 2, x.knew(desk, 2, 999));
            see(seen, "net", desk, 0, x.net(desk));
        }
        for (int run = 0; run < 6; run++) {
            see(seen, "untrue", run, 0, x.untrue(run));
        }
        see(seen, "ringed", 0, 0, x.ringed());
        see(seen, "wall", 0, 4, x.wall(0, 4, false));
        see(seen, "wall", 1, 5, x.wall(1, 5, false));
        see(seen, "owe", 0, 1, x.owe(0, 1, 0));
        see(seen, "type", 0, 0, x.type(' ', 1));
        see(seen, "rules", 29, 0, x.rules(29));
        see(seen, "rule", 29, 0, x.rule(29, 0) * 10000 + x.rule(29, 1) * 1000 + x.rule(29, 2));
        for (int sheet = 0; sheet < 4; sheet++) {
            see(seen, "all", sheet, 0, x.all(3, sheet, sheet % 3, 0));
            see(seen, "item 0", sheet, 0, x.said(0, 3));
            see(seen, "item 7", sheet, 0, x.said(7, 3));
            see(seen, "drop", sheet, 0, x.drop(sheet));
        }
        return seen;
    }

    private static void see(List<String> seen, String call, int a, int b, long answer) {
        seen.add(call + " " + a + " " + b + " = " + answer);
    }
}
