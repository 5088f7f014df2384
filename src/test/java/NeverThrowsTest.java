import java.lang.reflect.InvocationTargetException;
import java.lang.reflect.Method;
import java.lang.reflect.Modifier;
import java.util.ArrayList;
import java.util.Arrays;
import java.util.Comparator;
import java.util.List;

/** Drawn calls (from a fixed seed) with any numbers at all, up to the 512th: none throws, and all end. */
public final class NeverThrowsTest {
    private static final int MOST_CALLS = 512;
    private static final int[] ODD = {Integer.MIN_VALUE, Integer.MIN_VALUE + 1, Integer.MAX_VALUE, Integer.MAX_VALUE - 1,
        -2401, -3, -2, -1, 0, 7, 9, 10, 11, 12, 24, 25, 31, 59, 60, 99, 100, 255, 256, 399, 400, 480, 481, 700, 999, 1000,
        2000, 2399, 2400, 5000, 10_000, 100_000, 200_000, 200_001, 500_000, 500_001, 1 << 16, 1 << 24, 1 << 30};
    private static final String[] PIECES = {"pay ", "fine", " if ", "tons", "late", "pric", "e+1 ", "0/0 ", "[[[[", "]]]]",
        "((((", "))))", "not ", " or ", " and", " <1 ", "*9*9", ";pay", "at 1", "    ", "wind", "ow 1", " to ", "9999", "heat"};
    private static final String[] TEXTS = {"pay tons*price*100000*100000", "window 5 to 9;at 1;fine late*[hours/[early-0]]",
        "pay 1 if not (tons > 1 or 1/0 = 1) and heat < billed", "fine [[[[[[[[1/[elsewhere-elsewhere]]]]]]]]]", "pay 7"};
    private static long seed = 20261118L;
    private static int calls = 0;
    private static int wrong = 0;
    private static final int[] reached = new int[8];

    private static int draw(int below) {
        seed = seed * 6364136223846793005L + 1442695040888963407L;
        return (int) ((seed >>> 33) % below);
    }

    private static int any() {
        switch (draw(4)) {
            case 0: return ODD[draw(ODD.length)];
            case 1: return draw(2400);
            default: return draw(6);
        }
    }

    private static int four(String text, int at) {
        int four = 0;
        for (int n = at; n < at + 4; n++) {
            four = four << 8 | (n < text.length() ? text.charAt(n) : ' ');
        }
        return four;
    }

    private static int piece() {
        return four(PIECES[draw(PIECES.length)], 0);
    }

    /** A midst from which the drawn calls go on: ships that load and land, contracts, readings, cargoes, images. */
    private static int begin(ColdShips x) {
        int made = 0;
        for (int t = 0; t < 3; t++, made += 2) {
            x.terminal(20_000, 40_000, 200 + draw(900), 20);
            x.way(t, draw(3), 1 + draw(8), draw(2) == 0);
        }
        for (int s = 0; s < 3; s++, made += 5) {
            x.ship(s, 1000 + draw(9000), 1 + draw(50));
            x.slot(s, s, 0, 2399);
            for (int n = 0; n < 3; n++) {
                x.order(s, n < 2 ? 1 + n : 0, n < 2 ? 700 : draw(3));
            }
        }
        x.go(9 + draw(20));
        for (int n = 0; n < 3; n++, made += 8) {
            String text = TEXTS[draw(TEXTS.length)];
            for (int at = 0; at < text.length(); at += 20, made++) {
                x.feed(four(text, at), four(text, at + 4), four(text, at + 8), four(text, at + 12), four(text, at + 16));
            }
            x.contract();
            x.settle(n, n);
            x.table(0, n, n * 100, n * 1000);
            x.table(0, 3, 999, 5000);
            x.reading(0, n % 2, any(), draw(41) - 20, draw(9));
            x.cargo(n, (n + 1) % 3, 0, 2000, 0, 2300, 100 + draw(900), draw(1001));
            x.image(n);
            x.best(draw(100));
        }
        return made + 1;
    }

    private static void call(ColdShips x, Method m) throws IllegalAccessException {
        Object[] a = new Object[m.getParameterCount()];
        boolean pieces = m.getName().equals("feed") && draw(2) == 0;
        for (int n = 0; n < a.length; n++) {
            a[n] = m.getParameterTypes()[n] == boolean.class ? (Object) (draw(2) == 0) : (Object) (pieces ? piece() : any());
        }
        try {
            m.invoke(x, a);
        } catch (InvocationTargetException e) {
            wrong++;
            System.out.println(m.getName() + Arrays.toString(a) + " threw " + e.getCause());
        }
    }

    private static void oneRun(List<Method> face) throws IllegalAccessException {
        ColdShips x = new ColdShips();
        // A new object without anything, too, must stand any call.
        int n = draw(10) == 0 ? 0 : begin(x);
        for (; n < MOST_CALLS - reached.length && wrong < 20; n++, calls++) {
            call(x, face.get(draw(face.size())));
        }
        for (int what = 0; what < reached.length; what++) {
            reached[what] += x.count(what);
        }
    }

    public static void main(String[] args) throws IllegalAccessException {
        List<Method> face = new ArrayList<>();
        for (Method m : ColdShips.class.getDeclaredMethods()) {
            if (Modifier.isPublic(m.getModifiers())) {
                face.add(m);
            }
        }
        // The machine tells methods in no order of its own: without one the runs would not be the same each time.
        face.sort(Comparator.comparing(Method::getName));
        for (int run = 0; run < 1000 && wrong < 20; run++) {
            oneRun(face);
        }
        for (int what = 0; what < reached.length && wrong == 0; what++) {
            wrong += reached[what] == 0 ? 1 : 0;
        }
        System.out.println("reached: " + Arrays.toString(reached));
        System.out.println(wrong == 0 ? "none of " + calls + " calls has thrown" : wrong + " things are not as due");
        if (wrong != 0) {
            System.exit(1);
        }
    }
}
