import java.lang.reflect.InvocationTargetException;
import java.lang.reflect.Method;
import java.lang.reflect.Modifier;
import java.util.Arrays;

/** Every call with every mix of edge numbers, on empty, half-filled and full objects: none throws, the refused ones change nothing. */
public final class NeverThrowsTest {
    private static final int[] EDGES = {Integer.MIN_VALUE, -1, 0, 1, 3, 8, 12, 30, 100, 256, 999, 1000, Integer.MAX_VALUE};
    private static final int[] FEWER_EDGES = {Integer.MIN_VALUE, -1, 0, 1, 12, 999, Integer.MAX_VALUE};
    private static int wrong = 0;

    public static void main(String[] args) throws Exception {
        for (int fill = 0; fill < 3; fill++) {
            for (Method call : SaidRate.class.getDeclaredMethods()) {
                if (Modifier.isPublic(call.getModifiers())) {
                    SaidRate x = filled(fill);
                    tryAll(x, call, new Object[call.getParameterCount()], 0);
                }
            }
        }
        for (int fill = 0; fill < 3; fill++) {
            refusedChangeNothing(fill);
        }
        System.out.println(wrong == 0 ? "no call throws" : wrong + " calls went wrong");
        if (wrong != 0) {
            System.exit(1);
        }
    }

    private static SaidRate filled(int fill) {
        SaidRate x = new SaidRate();
        for (int i = 0; i < fill * 30; i++) {
            for (int house = 0; house < 4 * fill; house++) {
                x.say(house, i % 30, (i + house) * 37 % 1000);
            }
            x.desk(i % 8);
            x.contract(i % 5, 1 + i % 7, i % 30, 1 + i % 99, i);
            x.lent(i % 8, i % 30, i * 53 % 1000);
            x.run(i % 30, i * 37 % 1000);
            x.word(i % 5, 1 + i % 7, i % 2, i);
            x.owe(i % 5, 1 + i % 7, i);
            x.sheet(i % 4, i % 3, i % 17);
            x.type("c1;".charAt(i % 3), 1);
            if (i % 20 == 7) {
                x.rules(i % 20);
            }
        }
        return x;
    }

    private static void tryAll(SaidRate x, Method call, Object[] with, int at) throws Exception {
        if (at == with.length) {
            tryOne(x, call, with);
            return;
        }
        Class<?> type = call.getParameterTypes()[at];
        if (type == boolean.class) {
            for (boolean b : new boolean[] {false, true}) {
                with[at] = b;
                tryAll(x, call, with, at + 1);
            }
            return;
        }
        for (int edge : with.length > 3 ? FEWER_EDGES : EDGES) {
            with[at] = type == long.class ? (Object) (edge * 4294967297L) : (Object) edge;
            tryAll(x, call, with, at + 1);
        }
    }

    private static long tryOne(SaidRate x, Method call, Object[] with) throws Exception {
        try {
            return ((Number) call.invoke(x, with)).longValue();
        } catch (InvocationTargetException e) {
            wrong++;
            System.out.println(call.getName() + Arrays.toString(with) + " threw " + e.getCause());
            return 0;
        }
    }

    private static void refusedChangeNothing(int fill) {
        SaidRate x = filled(fill);
        String ahead = everything(x);
        x.say(0, 0, 1000);
        x.say(8, 0, 1);
        x.all(0, 3, 2, 16);
        x.type(1, 1);
        x.rules(30);
        x.desk(8);
        x.contract(0, 0, 0, 1, 1);
        x.lent(0, 0, -1);
        x.run(30, 0);
        x.word(1, 1, 0, 0);
        x.wall(1, 1, true);
        x.owe(0, 1, 100);
        x.sheet(0, 0, 17);
        x.sheet(0, 0, -1);
        x.drop(4);
        x.item(0, 3, 0, 1);
        if (!everything(x).equals(ahead)) {
            wrong++;
            System.out.println("a refused call changed something, fill " + fill);
        }
    }

    private static String everything(SaidRate x) {
        StringBuilder told = new StringBuilder();
        for (int m = 0; m < 30; m++) {
            for (int h = 0; h < 8; h++) {
                told.append(x.said(h, m)).append(' ').append(x.truth(h, m, 0)).append(' ').append(x.truth(h, m, 1)).append(' ');
            }
            for (int d = 0; d < 12; d++) {
                told.append(x.gain(d, m, 0)).append(' ').append(x.paid(d, m, 0)).append(' ').append(x.knew(d, m, 999)).append(' ');
            }
            told.append(x.crossed(m)).append(' ').append(x.rule(m, 0)).append(x.rule(m, 1)).append(x.rule(m, 2)).append(' ');
        }
        for (int d = 0; d < 12; d++) {
            told.append(x.net(d)).append(' ').append(x.lean(d, 2)).append(' ');
        }
        for (int what = 0; what < 6; what++) {
            told.append(x.count(what)).append(' ');
        }
        return told.append(x.ringed()).toString();
    }
}
