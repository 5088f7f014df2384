import java.util.ArrayList;
import java.util.List;

/** What the tests of edges share: counting of wrong answers, texts, and pictures of all that an object tells. */
abstract class Edges {
    static final long NOTHING = -2_000_000_000_000_000L;
    static final int NONE = -1;
    static final int MIN = Integer.MIN_VALUE;
    static final int MAX = Integer.MAX_VALUE;

    static final int SAIL = 0;
    static final int LOAD = 1;
    static final int LAND = 2;
    static final int WAIT = 3;

    // What of() tells.
    static final int WHERE = 0;
    static final int LEFT = 1;
    static final int GAS = 2;
    static final int VAPOR = 3;
    static final int WARM = 4;
    static final int PRESS = 5;
    static final int ORDERS = 6;
    static final int TONS = 7;
    static final int DRAFT = 8;
    static final int DRIFTING = 9;

    private static String sentence = "";
    private static int asked = 0;
    private static int wrong = 0;

    /** A call whose numbers are given as a row. */
    interface Numbers {
        long on(ColdShips x, int[] a);
    }

    /** The words of the document that are tested next. */
    static void says(String words) {
        sentence = words;
    }

    static void due(long got, long want) {
        asked++;
        if (got != want) {
            tellWrong("answered " + got + ", due is " + want);
        }
    }

    private static void tellWrong(String what) {
        wrong++;
        StringBuilder at = new StringBuilder();
        for (StackTraceElement e : new Throwable().getStackTrace()) {
            if (!e.getClassName().startsWith("Edges$") && !e.getClassName().equals("Edges") && !e.getMethodName().equals("main")) {
                at.append(at.length() > 0 ? " < " : "").append(e.getMethodName()).append(':').append(e.getLineNumber());
            }
        }
        System.out.println("\"" + sentence + "\" " + at + ": " + what);
    }

    static void finish() {
        System.out.println(wrong == 0 ? "all " + asked + " answers are as due" : wrong + " answers are not as due");
        if (wrong != 0) {
            System.exit(1);
        }
    }

    // ---------------------------------------------------------------- texts

    /** The TAPE holds just this text then. */
    static void feed(Told x, String text) {
        x.end(0);
        for (int i = 0; i < text.length(); i += 20) {
            int[] five = new int[5];
            for (int k = 0; k < 20; k++) {
                five[k / 4] = five[k / 4] << 8 | (i + k < text.length() ? text.charAt(i + k) & 255 : '!');
            }
            x.feed(five[0], five[1], five[2], five[3], five[4]);
        }
        x.end(text.length());
    }

    static int contract(Told x, String text) {
        feed(x, text);
        return x.contract();
    }

    // ---------------------------------------------------------------- pictures

    /** All that an object tells of itself, but for status(). */
    static List<Long> picture(Told x, boolean withTape) {
        List<Long> all = new ArrayList<>();
        for (int what = 0; what <= (withTape ? 8 : 7); what++) {
            all.add((long) x.count(what));
        }
        if (withTape) {
            all.add((long) x.fault());
        }
        int terminals = x.count(1);
        int ships = x.count(2);
        for (int s = 0; s < ships; s++) {
            for (int what = 0; what <= 9; what++) {
                all.add((long) x.of(s, what));
            }
            for (int what = 0; what <= 3; what++) {
                all.add(x.book(s, what));
            }
            for (int t = 0; t < terminals; t++) {
                all.add((long) x.part(s, t));
            }
        }
        for (int t = 0; t < terminals; t++) {
            all.add((long) x.store(t));
        }
        int landings = x.count(4);
        for (int l = 0; l < landings; l++) {
            if (l < 2 || l == landings - 1) {
                pictureLanding(x, l, terminals, all);
            }
        }
        for (int cargo = 0; cargo < 6; cargo++) {
            for (int what = 0; what <= 4; what++) {
                all.add(x.voyage(cargo, what));
            }
            for (int s = 0; s < 3; s++) {
                all.add(x.judge(s, cargo, NONE, NONE, 0));
            }
        }
        return all;
    }

    private static void pictureLanding(Told x, int l, int terminals, List<Long> all) {
        for (int what = 0; what <= 6; what++) {
            all.add((long) x.landing(l, what));
        }
        for (int t = 0; t < terminals; t++) {
            all.add((long) x.led(l, t));
        }
        for (int what = 0; what <= 2; what++) {
            all.add(x.settled(l, what));
        }
        int contracts = x.count(5);
        for (int known : new int[] {0, 10, 2399}) {
            for (int what = 0; what <= 3; what++) {
                all.add(x.gauged(l, known, what));
            }
            for (int c = 0; c < contracts; c++) {
                for (int what = 0; what <= 4 && (c < 2 || c == contracts - 1); what++) {
                    all.add(x.due(l, c, known, what));
                }
            }
        }
    }

    /** Answers of calls that come later: they tell what room there is, and what was told but not seen yet. */
    private static List<Long> later(Told x, boolean withTape) {
        List<Long> all = new ArrayList<>();
        all.add((long) x.go(1));
        for (int s = 0; s < 3; s++) {
            all.add((long) x.order(s, WAIT, 0));
        }
        all.add((long) x.terminal(1, 2, 3, 4));
        all.add((long) x.ship(0, 1000, 1));
        all.add((long) x.slot(0, 0, 2390, 2390));
        all.add((long) x.broken(0, 2390, 2390));
        all.add((long) x.price(0, 3, 2399));
        all.add((long) x.force(0, 1, 2399));
        all.add((long) x.reading(0, 0, 5, 0, 2399));
        all.add((long) x.cargo(0, 1, 0, 900, 0, 900, 10, 900));
        all.add((long) x.heat(0, 900));
        all.add((long) x.list(0, 1));
        if (withTape) {
            all.add((long) x.contract());
        }
        all.add((long) contract(x, "pay 1"));
        all.add((long) x.go(40));
        all.add(x.best(0));
        all.add((long) x.back(1));
        all.add((long) x.back(0));
        return all;
    }

    private static void same(List<Long> want, List<Long> got, String when) {
        asked++;
        if (!want.equals(got)) {
            int n = 0;
            while (n < want.size() && n < got.size() && want.get(n).equals(got.get(n))) {
                n++;
            }
            tellWrong("a refused call changed what is told " + when + ", first at " + n);
        }
    }

    /** The call is REFUSED by that answer, which status() tells then, and nothing is changed, now or later. */
    static void refused(Told world, long answer, Told.Call call) {
        refused(world, answer, call, true);
    }

    /** As above; but the TAPE may be empty then. */
    static void refused(Told world, long answer, Told.Call call, boolean withTape) {
        Told plain = world.copy();
        Told with = world.copy();
        due(with.tell(call), answer);
        due(with.status(), answer);
        unchanged(plain, with, withTape);
    }

    /** The call answers so, and changes nothing, nor status(), which doesn't tell of it. */
    static void leaves(Told world, long answer, Told.Call call) {
        Told plain = world.copy();
        Told with = world.copy();
        due(with.tell(call), answer);
        due(with.status(), plain.status());
        unchanged(plain, with, true);
    }

    private static void unchanged(Told plain, Told with, boolean withTape) {
        same(picture(plain, withTape), picture(with, withTape), "at once");
        if (with.room() > 30) {
            same(later(plain, withTape), later(with, withTape), "by later calls");
            same(picture(plain, true), picture(with, true), "behind later calls");
        }
    }

    /** The call answers so, and status() tells that it was not REFUSED, though one ahead was. */
    static void accepted(Told world, long answer, Told.Call call) {
        Told with = world.copy();
        with.terms(-1, -1);
        due(with.status(), -1);
        due(with.tell(call), answer);
        due(with.status(), 0);
    }

    /** A number of a call that may be from least to most; beyond these, at both ends, the call is REFUSED. */
    static void bounds(Told world, int why, Numbers call, int[] good, int place, int least, int most) {
        for (int number : new int[] {least, most}) {
            int[] a = good.clone();
            a[place] = number;
            Told with = world.copy();
            with.terms(-1, -1);
            with.tell(x -> call.on(x, a));
            due(with.status(), 0);
        }
        for (int number : new int[] {least - 1, most + 1, MIN, MAX}) {
            int[] a = good.clone();
            a[place] = number;
            refused(world, why, x -> call.on(x, a));
        }
    }

    // ---------------------------------------------------------------- worlds

    /**
     * Three terminals and three ships in the midst of all: two LANDINGS (one SETTLED, with a BILL and READINGS), one
     * under way, a ship at sea, one that waits, two CONTRACTS, two CARGOES, a BEST, IMAGE 0, and a TAPE.
     */
    static Told midst() {
        Told x = new Told();
        x.terminal(50_000, 100_000, 400, 30);
        x.terminal(0, 100_000, 300, 30);
        x.terminal(100, 1000, 50, 12);
        x.ship(0, 10_000, 4);
        x.ship(0, 2000, 1);
        x.ship(1, 1000, 9);
        x.way(0, 1, 4, false);
        x.way(1, 2, 6, true);
        x.way(0, 2, 9, false);
        x.tide(3, 2);
        x.sea(0, 3);
        x.sea(1, 8);
        x.terms(40, 300);
        x.slot(0, 0, 0, 9);
        x.slot(1, 0, 5, 60);
        x.slot(0, 1, 10, 40);
        x.broken(0, 2, 2);
        x.broken(1, 14, 15);
        x.order(0, LOAD, 900);
        x.order(0, SAIL, 1);
        x.order(0, LAND, 250);
        x.order(0, LAND, 50);
        x.order(0, LAND, 500);
        x.order(0, SAIL, 0);
        x.order(1, LOAD, 300);
        x.order(1, SAIL, 2);
        x.order(2, WAIT, 60);
        x.order(2, SAIL, 0);
        contract(x, "window 0 to 5;at 1;pay tons*price if late<100;fine late*10");
        contract(x, "pay billed if elsewhere=1 ; fine 1+heat");
        x.price(0, 5, 0);
        x.price(0, 7, 12);
        x.price(1, 9, 3);
        x.force(7, 9, 2);
        x.force(9, 15, 20);
        x.table(0, 0, 10, 0);
        x.table(0, 1, 20, 100);
        x.table(0, 2, 30, 500);
        x.table(0, 3, 40, 3000);
        x.table(1, 0, 7, 7);
        x.list(0, 3);
        x.heat(0, 1100);
        x.go(18);
        x.bill(0, 260);
        x.settle(0, 0);
        x.reading(0, 0, 35, 1, 5);
        x.reading(0, 1, 22, 0, 9);
        x.cargo(0, 1, 0, 90, 0, 90, 500, 60);
        x.cargo(1, 2, 0, 90, 0, 90, 100, 200);
        x.best(3);
        x.image(0);
        x.go(1);
        feed(x, "pay 1 if tons>1 xor");
        return x;
    }
}
