/** For each promise of the document ordinary inputs, the edges that it names, and wrong inputs. */
public final class PromisesTest {
    private static final long NOTHING = -2_000_000_000_000_000L;
    private static final int MIN = Integer.MIN_VALUE;
    private static final int MAX = Integer.MAX_VALUE;
    private static int wrong = 0;
    private static int promise = 0;
    private static int asked = 0;

    private static void due(long got, long want) {
        asked++;
        if (got != want) {
            wrong++;
            StackTraceElement at = new Throwable().getStackTrace()[1];
            System.out.println("promise " + promise + ", line " + at.getLineNumber() + ": answered " + got + ", due is " + want);
        }
    }

    /** Feeds a text, whose contract() is asked next. */
    private static void feed(Told x, String text) {
        x.end(0);
        for (int i = 0; i < text.length(); i += 20) {
            int[] five = new int[5];
            for (int k = 0; k < 20; k++) {
                five[k / 4] = five[k / 4] << 8 | (i + k < text.length() ? text.charAt(i + k) & 255 : ' ');
            }
            x.feed(five[0], five[1], five[2], five[3], five[4]);
        }
        x.end(text.length());
    }

    private static int contract(Told x, String text) {
        feed(x, text);
        return x.contract();
    }

    /** The place of the FAULT of a text, NONE without. */
    private static int faultOf(String text) {
        Told x = new Told();
        int got = contract(x, text);
        return got == 0 && x.fault() == ColdShips.NONE || got == -6 ? x.fault() : -99;
    }

    /** Two terminals ten hours apart, ship 0 (10,000 tons) at terminal 0 with slots at both, nothing boils. */
    private static Told harbour(int fuel) {
        Told x = new Told();
        x.terminal(100_000, 200_000, 400, 30);
        x.terminal(0, 100_000, 300, 30);
        x.ship(0, 10_000, fuel);
        x.way(0, 1, 10, false);
        x.terms(0, 1000);
        x.slot(0, 0, 0, 2399);
        x.slot(1, 0, 0, 2399);
        return x;
    }

    /** LANDING 0: 600 tons at terminal 1, from HOUR 18 to 19; NOW is 20. */
    private static Told landed() {
        Told x = harbour(1);
        x.order(0, 1, 1000);
        x.order(0, 0, 1);
        x.order(0, 2, 600);
        x.go(20);
        // 100 tons an HOUR while it is warm: ten HOURS, then ten at sea, then 300 an HOUR.
        x.go(2);
        return x;
    }

    private static void newObject() {
        promise = 1;
        Told x = new Told();
        for (int what = 0; what <= 8; what++) {
            due(x.count(what), 0);
        }
        due(x.status(), 0);
        due(x.fault(), ColdShips.NONE);
        due(x.of(0, 0), -1);
        due(x.store(0), -1);
        due(x.landing(0, 0), -1);
        due(x.voyage(0, 0), NOTHING);
        due(ColdShips.NONE, -1);
    }

    private static void terminals() {
        promise = 2;
        Told x = new Told();
        due(x.terminal(-1, 10, 1, 0), -1);
        due(x.terminal(11, 10, 1, 0), -1);
        due(x.terminal(0, 500_001, 1, 0), -1);
        due(x.terminal(0, -1, 1, 0), -1);
        due(x.terminal(MIN, MIN, 1, 0), -1);
        due(x.terminal(0, 10, 0, 0), -1);
        due(x.terminal(0, 10, 10_001, 0), -1);
        due(x.terminal(0, 10, 1, -1), -1);
        due(x.terminal(0, 10, 1, 31), -1);
        due(x.status(), -1);
        due(x.terminal(0, 0, 1, 0), 0);
        due(x.status(), 0);
        due(x.terminal(500_000, 500_000, 10_000, 30), 1);
        for (int n = 2; n < 6; n++) {
            due(x.terminal(5, 5, 5, 5), n);
        }
        due(x.terminal(5, 5, 5, 5), -5);
        due(x.terminal(5, 5, 5, 31), -1);
        due(x.count(1), 6);
        due(x.store(1), 500_000);
    }

    private static void ships() {
        promise = 3;
        Told x = new Told();
        due(x.ship(0, 1000, 1), -2);
        due(x.ship(0, 999, 1), -1);
        x.terminal(0, 0, 1, 0);
        due(x.ship(-1, 1000, 1), -2);
        due(x.ship(1, 1000, 1), -2);
        due(x.ship(0, 200_001, 1), -1);
        due(x.ship(0, 1000, 0), -1);
        due(x.ship(0, 1000, 51), -1);
        due(x.ship(0, 1000, 1), 0);
        due(x.ship(0, 200_000, 50), 1);
        for (int n = 2; n < 6; n++) {
            due(x.ship(0, 1000, 1), n);
        }
        due(x.ship(0, 1000, 1), -5);
        due(x.ship(9, 1000, 1), -2);
        due(x.status(), -2);
        due(x.of(5, 0), 0);
        due(x.of(5, 2), 0);
        due(x.of(5, 4), 1800);
        due(x.count(2), 6);
    }

    private static void ways() {
        promise = 4;
        Told x = harbour(1);
        due(x.way(0, 1, 0, false), -1);
        due(x.way(0, 1, 401, false), -1);
        due(x.way(0, 2, 5, false), -2);
        due(x.way(-1, 0, 5, false), -2);
        due(x.way(2, 2, 5, false), -2);
        due(x.way(1, 1, 5, false), -3);
        due(x.status(), -3);
        due(x.way(1, 0, 400, false), 0);
        due(x.way(1, 0, 3, false), 0);
        x.order(0, 1, 100);
        x.order(0, 0, 1);
        x.go(4);
        due(x.of(0, 0), 1);
        due(x.of(0, 1), 0);
        x.order(0, 0, 0);
        x.go(2);
        due(x.of(0, 0), 0);
        due(x.of(0, 1), 1);
    }

    private static void wayWaits() {
        promise = 4;
        Told x = new Told();
        x.terminal(0, 0, 1, 0);
        x.terminal(0, 0, 1, 0);
        x.ship(0, 1000, 1);
        x.order(0, 0, 1);
        x.go(5);
        due(x.of(0, 0), 0);
        due(x.of(0, 6), 1);
        x.way(0, 1, 2, false);
        x.go(1);
        due(x.of(0, 0), 1);
        due(x.of(0, 1), 1);
    }

    private static void tides() {
        promise = 5;
        Told x = harbour(1);
        due(x.tide(-1, 0), -1);
        due(x.tide(25, 0), -1);
        due(x.tide(0, -1), -1);
        due(x.tide(0, 10), -1);
        due(x.status(), -1);
        due(x.tide(0, 0), 0);
        due(x.tide(24, 9), 0);
        due(x.status(), 0);
        Told y = new Told();
        y.terminal(1000, 1000, 40, 6);
        y.ship(0, 1000, 1);
        y.slot(0, 0, 0, 2399);
        y.order(0, 1, 30);
        y.tide(2, 1);
        y.tide(3, 2);
        y.go(3);
        due(y.of(0, 2), 0);
        y.go(1);
        due(y.of(0, 2), 10);
        y.go(24);
        due(y.of(0, 2), 10);
        y.go(1);
        due(y.of(0, 2), 20);
    }

    private static void seas() {
        promise = 6;
        Told x = harbour(1);
        due(x.sea(-1, 0), -1);
        due(x.sea(100, 0), -1);
        due(x.sea(0, -1), -1);
        due(x.sea(0, 10), -1);
        due(x.status(), -1);
        due(x.sea(99, 9), 0);
        due(x.status(), 0);
        x.order(0, 1, 1000);
        x.go(10);
        // A SEA of 6 does not hold a ship, one of 7 does in odd HOURS.
        x.sea(0, 6);
        x.order(0, 0, 1);
        x.go(2);
        due(x.of(0, 1), 8);
        x.sea(0, 7);
        x.go(2);
        due(x.of(0, 1), 7);
        x.go(1);
        due(x.of(0, 1), 6);
    }

    private static void slots() {
        promise = 7;
        Told x = new Told();
        x.terminal(1000, 1000, 40, 30);
        x.terminal(1000, 1000, 40, 30);
        x.ship(0, 1000, 1);
        x.ship(0, 1000, 1);
        due(x.slot(0, 0, -1, 5), -1);
        due(x.slot(0, 0, 6, 5), -1);
        due(x.slot(0, 0, 5, 2400), -1);
        due(x.slot(2, 0, 5, 5), -2);
        due(x.slot(0, 2, 5, 5), -2);
        due(x.slot(-1, 0, 5, 5), -2);
        due(x.slot(0, 0, 2, 4), 1);
        due(x.slot(0, 1, 4, 4), -3);
        due(x.slot(0, 0, 0, 2), -3);
        due(x.slot(0, 1, 0, 9), -3);
        due(x.status(), -3);
        due(x.slot(1, 0, 2, 4), 2);
        due(x.slot(0, 1, 5, 5), 3);
        x.order(0, 1, 1000);
        x.order(1, 1, 1000);
        x.go(2);
        due(x.of(0, 2), 0);
        x.go(1);
        due(x.of(0, 2), 10);
        x.go(3);
        due(x.of(0, 2), 30);
        due(x.of(1, 2), 10);
        for (int n = 4; n <= 60; n++) {
            due(x.slot(1, 1, 100 + n, 100 + n), n);
        }
        due(x.slot(1, 1, 99, 99), -5);
        due(x.slot(1, 1, 104, 104), -3);
        due(x.count(3), 60);
    }

    private static void brokenArms() {
        promise = 8;
        Told x = harbour(1);
        due(x.broken(0, -1, 3), -1);
        due(x.broken(0, 4, 3), -1);
        due(x.broken(0, 4, 2400), -1);
        due(x.broken(2, 4, 4), -2);
        due(x.broken(0, 1, 2), 1);
        due(x.broken(0, 2, 2), 2);
        due(x.broken(1, 0, 0), 3);
        x.order(0, 1, 1000);
        x.go(1);
        due(x.of(0, 2), 100);
        x.go(2);
        due(x.of(0, 2), 100);
        x.go(1);
        due(x.of(0, 2), 200);
        for (int n = 4; n <= 20; n++) {
            due(x.broken(1, n, n), n);
        }
        due(x.broken(0, 4, 4), -5);
        due(x.broken(9, 4, 4), -2);
    }

    private static void terms() {
        promise = 9;
        Told x = harbour(1);
        due(x.terms(-1, 1), -1);
        due(x.terms(101, 1), -1);
        due(x.terms(0, 0), -1);
        due(x.terms(0, 1001), -1);
        due(x.status(), -1);
        due(x.terms(100, 1), 0);
        due(x.terms(0, 1000), 0);
        // At first 10 hundred-thousandths boil: one ton of 10,000.
        Told y = new Told();
        y.terminal(20_000, 20_000, 10_000, 30);
        y.ship(0, 11_000, 1);
        y.slot(0, 0, 0, 9);
        y.order(0, 1, 10_000);
        y.go(4);
        due(y.of(0, 2), 10_000 - 6);
        due(y.of(0, 3), 6);
        y.terms(100, 700);
        y.go(1);
        due(y.of(0, 2), 10_000 - 6 - 9 - 2);
        due(y.of(0, 3), 6 + 9 + 2);
        // 17 tons of vapor in 11,000 less 9983 and 110 tons: PRESS 15, which is not above 15.
        due(y.of(0, 5), 15);
        y.terms(0, 15);
        y.go(1);
        due(y.of(0, 5), 15);
        due(y.book(0, 2), 1);
    }

    private static void orders() {
        promise = 10;
        Told x = harbour(1);
        due(x.order(0, -1, 1), -1);
        due(x.order(0, 4, 1), -1);
        due(x.order(0, 1, 0), -1);
        due(x.order(0, 1, 200_001), -1);
        due(x.order(0, 2, 0), -1);
        due(x.order(0, 2, 200_001), -1);
        due(x.order(0, 3, -1), -1);
        due(x.order(0, 3, 2400), -1);
        due(x.order(9, 3, 2400), -1);
        due(x.order(1, 3, 5), -2);
        due(x.order(-1, 3, 5), -2);
        due(x.order(0, 0, 2), -2);
        due(x.order(0, 0, -1), -2);
        due(x.status(), -2);
        due(x.order(0, 3, 5), 1);
        due(x.order(0, 1, 200_000), 2);
        due(x.of(0, 7), 0);
        due(x.order(0, 2, 1), 3);
        due(x.status(), 0);
        x.go(5);
        due(x.of(0, 6), 3);
        x.go(1);
        due(x.of(0, 6), 2);
        due(x.of(0, 7), 200_000);
        for (int n = 3; n <= 20; n++) {
            due(x.order(0, 3, 0), n);
        }
        due(x.order(0, 3, 0), -5);
        due(x.order(0, 0, 9), -2);
    }

    private static void ordersInAll() {
        promise = 10;
        Told x = harbour(1);
        for (int n = 0; n < 400; n++) {
            due(x.order(0, 3, 0), n % 20 + 1);
            if (n % 20 == 19) {
                x.go(20);
            }
        }
        due(x.of(0, 6), 0);
        due(x.order(0, 3, 0), -5);
        due(x.status(), -5);
    }

    private static void hours() {
        promise = 11;
        Told x = harbour(1);
        due(x.go(0), -1);
        due(x.go(-1), -1);
        due(x.go(481), -1);
        due(x.go(MAX), -1);
        due(x.status(), -1);
        due(x.count(0), 0);
        for (int n = 1; n <= 4; n++) {
            due(x.go(480), 480 * n);
        }
        due(x.go(480), -1);
        due(x.go(479), 2399);
        due(x.go(1), -1);
        due(x.count(0), 2399);
    }

    /** A SAIL to where the ship is, and a WAIT for an HOUR gone by, take an HOUR each. */
    private static void oneOrderAnHour() {
        promise = 11;
        Told x = harbour(1);
        x.order(0, 0, 0);
        x.order(0, 3, 0);
        x.order(0, 1, 5);
        x.go(1);
        due(x.of(0, 6), 2);
        due(x.of(0, 0), 0);
        x.go(1);
        due(x.of(0, 6), 1);
        due(x.of(0, 2), 0);
        x.go(1);
        due(x.of(0, 2), 5);
        due(x.of(0, 6), 0);
    }

    private static void warmth() {
        promise = 11;
        Told x = harbour(1);
        x.order(0, 1, 9000);
        x.go(1);
        due(x.of(0, 2), 100);
        due(x.of(0, 4), 1800);
        x.go(2);
        due(x.of(0, 2), 298);
        due(x.of(0, 4), 1780);
        // 20 less in each HOUR: at 200 it is not above 200, and the whole RATE is loaded.
        x.go(79);
        due(x.of(0, 4), 200);
        due(x.of(0, 2), 298 + 78 * 98 + 398);
        due(x.of(0, 3), 160 + 2 - 2);
        x.go(10);
        due(x.of(0, 4), 0);
        x.order(0, 0, 1);
        x.order(0, 2, 10_000);
        x.go(1);
        due(x.of(0, 4), 0);
    }

    private static void heelAndTop() {
        promise = 11;
        Told x = new Told();
        x.terminal(5000, 5000, 4000, 30);
        x.terminal(0, 5000, 4000, 30);
        x.ship(0, 1050, 1);
        x.terms(0, 1000);
        x.way(0, 1, 1, false);
        x.slot(0, 0, 0, 99);
        x.slot(1, 0, 0, 99);
        x.order(0, 1, 2000);
        x.go(1);
        due(x.of(0, 2), 1000);
        x.go(1);
        due(x.of(0, 2), 1029);
        due(x.of(0, 6), 1);
        x.go(1);
        // By now nothing is lost in an HOUR, and the TOP lets none go.
        due(x.of(0, 6), 0);
        x.order(0, 0, 1);
        x.order(0, 2, 2000);
        x.go(2);
        due(x.of(0, 2), 21);
        due(x.of(0, 6), 1);
        x.go(1);
        due(x.of(0, 6), 0);
        due(x.landing(0, 4), 1029 - 21);
        due(x.landing(0, 3), 4);
        x.order(0, 2, 5);
        x.go(1);
        due(x.of(0, 6), 0);
        due(x.count(4), 1);
    }

    private static void emptyStore() {
        promise = 11;
        Told x = new Told();
        x.terminal(0, 5000, 2, 30);
        x.ship(0, 1000, 1);
        x.slot(0, 0, 1, 99);
        x.order(0, 1, 10);
        x.go(1);
        due(x.of(0, 6), 1);
        x.go(1);
        due(x.of(0, 6), 0);
        due(x.book(0, 0), 0);
        // A fourth of a RATE of 2 is one at least.
        Told y = new Told();
        y.terminal(10, 5000, 2, 30);
        y.ship(0, 1000, 1);
        y.slot(0, 0, 0, 99);
        y.order(0, 1, 10);
        y.go(3);
        due(y.of(0, 2), 3);
    }

    private static void drifting() {
        promise = 11;
        Told x = harbour(40);
        x.order(0, 1, 100);
        x.order(0, 0, 1);
        x.go(1);
        due(x.of(0, 9), 1);
        due(x.of(0, 2), 100);
        x.go(1);
        // It burns a fourth in the HOUR in which it leaves, 40 in the next ones.
        due(x.of(0, 9), 0);
        due(x.of(0, 2), 90);
        due(x.of(0, 1), 9);
        x.go(2);
        due(x.of(0, 2), 10);
        due(x.of(0, 1), 7);
        x.go(1);
        due(x.of(0, 2), 0);
        due(x.of(0, 1), 7);
        due(x.of(0, 9), 1);
        due(x.book(0, 1), 100);
        x.go(5);
        due(x.of(0, 1), 7);
        due(x.of(0, 0), 1);
    }

    /** One that drifts leaves all the same; HOURS left do not become less. */
    private static void driftsOut() {
        promise = 11;
        Told x = harbour(4);
        x.order(0, 0, 1);
        x.go(1);
        due(x.of(0, 0), 1);
        due(x.of(0, 1), 10);
        due(x.of(0, 9), 1);
    }

    private static Told canal(int ships) {
        Told x = new Told();
        x.terminal(5000, 5000, 400, 30);
        x.terminal(0, 5000, 400, 30);
        x.terms(0, 1000);
        x.way(0, 1, 5, true);
        for (int s = 0; s < ships; s++) {
            x.ship(0, 1000, 1);
            x.slot(0, s, s, s);
            x.order(s, 1, 100);
        }
        x.go(ships);
        return x;
    }

    private static void turns() {
        promise = 11;
        Told x = canal(2);
        x.order(0, 0, 1);
        x.order(1, 0, 1);
        x.go(3);
        due(x.of(0, 1), 2);
        due(x.of(1, 1), 2);
        x.go(1);
        due(x.of(0, 1), 2);
        x.go(1);
        due(x.count(0), 7);
        due(x.of(0, 1), 1);
        due(x.of(1, 1), 2);
        x.go(5);
        due(x.of(0, 1), 0);
        due(x.of(1, 1), 2);
        x.go(1);
        due(x.of(1, 1), 1);
        x.go(1);
        due(x.of(1, 0), 1);
        due(x.of(1, 1), 0);
        due(x.of(1, 6), 0);
    }

    /** A ship that can't go on anyway takes no TURN; a WAY of one HOUR needs none. */
    private static void noTurn() {
        promise = 11;
        Told x = new Told();
        x.terminal(5000, 5000, 400, 30);
        x.terminal(0, 5000, 400, 30);
        x.way(0, 1, 4, true);
        x.ship(0, 1000, 8);
        x.ship(0, 1000, 1);
        x.terms(0, 1000);
        x.slot(0, 0, 0, 0);
        x.slot(0, 1, 1, 1);
        x.order(0, 1, 11);
        x.order(0, 0, 1);
        x.order(1, 1, 100);
        x.order(1, 0, 1);
        // Ship 0 has 11 - 2 - 8 = 1 ton when half is left: from then on it drifts.
        x.go(7);
        due(x.of(0, 1), 2);
        due(x.of(0, 9), 1);
        due(x.of(1, 1), 1);
        Told y = canal(1);
        y.way(0, 1, 1, true);
        y.order(0, 0, 1);
        y.go(1);
        due(y.of(0, 1), 0);
        due(y.of(0, 0), 1);
    }

    /** A WAY told anew is for those that leave later. */
    private static void wayToldAnew() {
        promise = 11;
        Told x = canal(1);
        x.order(0, 0, 1);
        x.go(1);
        x.way(0, 1, 50, false);
        x.go(4);
        due(x.of(0, 1), 2);
        x.go(1);
        due(x.of(0, 1), 1);
    }

    private static void draft() {
        promise = 12;
        Told x = new Told();
        x.terminal(5000, 5000, 4000, 12);
        x.ship(0, 1000, 1);
        x.terms(0, 1000);
        x.slot(0, 0, 0, 99);
        due(x.of(0, 8), 8);
        x.order(0, 1, 499);
        x.go(1);
        due(x.of(0, 8), 11);
        x.order(0, 1, 126);
        x.go(1);
        due(x.of(0, 2), 625);
        due(x.of(0, 8), 13);
        x.order(0, 1, 1);
        x.go(5);
        due(x.of(0, 6), 1);
        due(x.of(0, 7), 1);
        x.tide(7, 1);
        x.go(1);
        due(x.of(0, 6), 0);
        due(x.of(0, -1), -1);
        due(x.of(0, 10), -1);
        due(x.of(1, 0), -1);
        due(x.of(-1, 0), -1);
    }

    private static void pressure() {
        promise = 12;
        Told x = new Told();
        x.terminal(5000, 5000, 4000, 30);
        x.ship(0, 1000, 1);
        x.terms(100, 1000);
        x.slot(0, 0, 0, 99);
        x.order(0, 1, 1000);
        x.go(1);
        due(x.of(0, 2), 980);
        due(x.of(0, 5), 0);
        x.go(20);
        due(x.of(0, 3), 0);
        x.terms(100, 100);
        x.sea(0, 9);
        x.sea(1, 9);
        x.go(1);
        // 980 * 109 / 100,000 is 1: 1000 through 1000 - 979 and 10.
        due(x.of(0, 3), 1);
        due(x.of(0, 2), 979);
        due(x.of(0, 5), 32);
        x.go(2);
        due(x.of(0, 3), 3);
        due(x.of(0, 5), 90);
        x.go(1);
        due(x.of(0, 3), 3);
        due(x.of(0, 2), 976);
        due(x.of(0, 5), 88);
        due(x.book(0, 2), 1);
    }

    /** PRESS 100 with five tons in a space of fifty is above 99: one ton is vented, and no more. */
    private static void ventsJustEnough() {
        promise = 11;
        Told x = new Told();
        x.terminal(5000, 5000, 4000, 30);
        x.ship(0, 1000, 1);
        x.terms(100, 1000);
        x.sea(0, 9);
        x.slot(0, 0, 0, 99);
        x.order(0, 1, 965);
        x.go(6);
        due(x.of(0, 2), 960);
        due(x.of(0, 3), 5);
        due(x.of(0, 5), 100);
        x.sea(0, 0);
        x.terms(0, 100);
        x.go(1);
        due(x.of(0, 3), 5);
        x.terms(0, 99);
        x.go(1);
        due(x.of(0, 3), 4);
        due(x.book(0, 2), 1);
    }

    /** The LIMIT is 700 at first: a full ship in high seas is kept at it. */
    private static void limitAtFirst() {
        promise = 11;
        Told x = new Told();
        x.terminal(500_000, 500_000, 10_000, 30);
        x.ship(0, 200_000, 1);
        x.slot(0, 0, 0, 999);
        x.order(0, 1, 196_000);
        for (int day = 0; day < 20; day++) {
            x.sea(day, 9);
        }
        x.go(400);
        due(x.of(0, 5), 700);
        due(x.book(0, 2) > 0 ? 1 : 0, 1);
    }

    /** What is BOILED and COOLED is cut: just below a whole ton it is one less. */
    private static void cutTons() {
        promise = 11;
        Told x = new Told();
        x.terminal(500_000, 500_000, 10_000, 30);
        x.ship(0, 199_999, 1);
        x.slot(0, 0, 0, 999);
        x.terms(0, 1000);
        x.order(0, 1, 2500);
        x.order(0, 1, 2500);
        x.go(2);
        due(x.of(0, 3), 0);
        due(x.of(0, 2), 5000);
        x.go(1);
        // 20 tenths times 199,999 / 100,000.
        due(x.of(0, 3), 39);
        Told y = new Told();
        y.terminal(500_000, 500_000, 10_000, 30);
        y.ship(0, 3000, 1);
        y.slot(0, 0, 0, 999);
        y.terms(41, 1000);
        y.order(0, 1, 2439);
        y.go(9);
        // 2439 * 41 is 99,999, and 2500 * 40 is 100,000.
        due(y.of(0, 3), 0);
        due(y.of(0, 2), 2439);
        y.terms(0, 1000);
        y.order(0, 1, 61);
        y.go(1);
        y.terms(40, 1000);
        y.go(1);
        due(y.of(0, 3), 1);
        due(y.of(0, 2), 2499);
        y.go(1);
        due(y.of(0, 3), 1);
    }

    /** 23 tons in a space of 51 have PRESS 450, as many as there may be just below 451. */
    private static void ventsNoneTooMany() {
        promise = 11;
        Told x = new Told();
        x.terminal(5000, 5000, 4000, 30);
        x.ship(0, 1000, 1);
        x.terms(100, 1000);
        x.sea(0, 9);
        x.slot(0, 0, 0, 99);
        x.order(0, 1, 980);
        x.go(4);
        x.order(0, 1, 2);
        x.go(20);
        due(x.of(0, 2), 959);
        due(x.of(0, 3), 23);
        x.terms(0, 450);
        x.go(1);
        due(x.of(0, 3), 23);
        due(x.of(0, 5), 450);
        x.terms(0, 449);
        x.go(1);
        due(x.of(0, 3), 22);
    }

    private static Told mixed() {
        Told x = new Told();
        for (int t = 0; t < 3; t++) {
            x.terminal(5000, 50_000, 400, 30);
        }
        x.ship(0, 10_000, 4);
        x.terms(0, 1000);
        x.way(0, 1, 1, false);
        x.way(1, 2, 1, false);
        for (int t = 0; t < 3; t++) {
            x.slot(t, 0, 0, 99);
        }
        x.order(0, 1, 100);
        x.order(0, 0, 1);
        x.order(0, 1, 200);
        x.order(0, 0, 2);
        x.order(0, 2, 50);
        return x;
    }

    private static void parts() {
        promise = 13;
        Told x = mixed();
        x.go(1);
        due(x.part(0, 0), 100);
        x.go(1);
        due(x.part(0, 0), 99);
        x.go(1);
        due(x.part(0, 0), 98);
        due(x.part(0, 1), 100);
        x.go(1);
        // One ton of 98 and 100: both give 0, the greater rest is terminal 1's.
        due(x.part(0, 0), 98);
        due(x.part(0, 1), 199);
        due(x.part(0, 2), 0);
        due(x.part(0, 3), -1);
        due(x.part(0, -1), -1);
        due(x.part(1, 0), -1);
        due(x.of(0, 2), 297);
    }

    /** Of alike rests the lower gives. */
    private static void alikeRests() {
        promise = 13;
        Told x = new Told();
        x.terminal(5000, 50_000, 400, 30);
        x.terminal(5000, 50_000, 400, 30);
        x.ship(1, 10_000, 4);
        x.terms(0, 1000);
        x.way(0, 1, 1, false);
        x.slot(0, 0, 0, 99);
        x.slot(1, 0, 0, 99);
        x.order(0, 1, 100);
        x.order(0, 0, 0);
        x.order(0, 1, 98);
        x.go(3);
        due(x.part(0, 0), 98);
        due(x.part(0, 1), 98);
        x.go(1);
        due(x.part(0, 0), 97);
        due(x.part(0, 1), 98);
        x.go(1);
        due(x.part(0, 0), 97);
        due(x.part(0, 1), 97);
    }

    private static void book() {
        promise = 14;
        Told x = mixed();
        x.go(6);
        due(x.book(0, 0), 300);
        due(x.book(0, 1), 5);
        due(x.book(0, 2), 0);
        due(x.book(0, 3), 50);
        due(x.book(0, -1), -1);
        due(x.book(0, 4), -1);
        due(x.book(1, 0), -1);
        due(x.book(-1, 0), -1);
    }

    private static void store() {
        promise = 15;
        Told x = mixed();
        x.go(6);
        due(x.store(0), 4900);
        due(x.store(1), 4800);
        due(x.store(2), 5050);
        due(x.store(3), -1);
        due(x.store(-1), -1);
    }

    private static void landings() {
        promise = 16;
        Told x = mixed();
        x.go(6);
        x.heat(0, 500);
        x.heat(1, 2000);
        due(x.count(4), 1);
        due(x.landing(0, 0), 0);
        due(x.landing(0, 1), 2);
        due(x.landing(0, 2), 5);
        due(x.landing(0, 3), 5);
        due(x.landing(0, 4), 50);
        due(x.landing(0, 5), (16 * 500 + 34 * 2000) / 50);
        due(x.landing(0, 6), 0);
        due(x.landing(0, 7), -1);
        due(x.landing(0, -1), -1);
        due(x.landing(1, 0), -1);
        due(x.landing(-1, 0), -1);
    }

    /** An HOUR between in which no tons go stays out of a LANDING's first and last HOUR; 60 are kept, orders go on. */
    private static void mostLandings() {
        promise = 16;
        Told x = harbour(1);
        x.order(0, 1, 9000);
        x.go(100);
        due(x.of(0, 6), 0);
        x.order(0, 0, 1);
        x.go(10);
        x.broken(1, 111, 113);
        x.order(0, 2, 600);
        x.go(5);
        due(x.landing(0, 2), 110);
        due(x.landing(0, 3), 114);
        for (int n = 2; n <= 61; n++) {
            x.order(0, 2, 1);
            x.go(1);
            due(x.count(4), Math.min(60, n));
        }
        due(x.of(0, 6), 0);
        due(x.book(0, 3), 660);
        due(x.landing(59, 4), 1);
        due(x.landing(59, 5), 1000);
        due(x.landing(60, 4), -1);
    }

    private static void led() {
        promise = 17;
        Told x = mixed();
        x.go(6);
        due(x.led(0, 0), 16);
        due(x.led(0, 1), 34);
        due(x.led(0, 2), 0);
        due(x.led(0, 3), -1);
        due(x.led(0, -1), -1);
        due(x.led(1, 0), -1);
    }

    private static void heat() {
        promise = 18;
        Told x = landed();
        due(x.heat(0, 499), -1);
        due(x.heat(0, 2001), -1);
        due(x.heat(9, 499), -1);
        due(x.heat(2, 500), -2);
        due(x.status(), -2);
        due(x.heat(0, 500), 1000);
        due(x.status(), 0);
        due(x.heat(0, 2000), 500);
        due(x.landing(0, 5), 2000);
    }

    private static void prices() {
        promise = 19;
        Told x = landed();
        contract(x, "pay price");
        due(x.price(-1, 0, 0), -1);
        due(x.price(100, 0, 0), -1);
        due(x.price(0, -1, 0), -1);
        due(x.price(0, 10_001, 0), -1);
        due(x.price(0, 0, -1), -1);
        due(x.price(0, 0, 2400), -1);
        due(x.status(), -1);
        due(x.due(0, 0, 2399, 4), 0);
        due(x.price(0, 7, 100), 1);
        due(x.price(1, 8, 0), 2);
        due(x.due(0, 0, 99, 4), 0);
        due(x.due(0, 0, 100, 4), 7);
        due(x.price(0, 10_000, 50), 3);
        due(x.due(0, 0, 50, 4), 10_000);
        due(x.due(0, 0, 100, 4), 10_000);
        for (int n = 4; n <= 60; n++) {
            due(x.price(99, 0, 2399), n);
        }
        due(x.price(0, 0, 0), -5);
        due(x.price(0, 0, 2400), -1);
    }

    /** Of the days that are not behind, the latest one's price counts. */
    private static void latestDay() {
        promise = 19;
        Told x = harbour(1);
        x.order(0, 1, 1000);
        x.go(49);
        x.order(0, 0, 1);
        x.order(0, 2, 600);
        x.go(20);
        due(x.landing(0, 3), 60);
        contract(x, "pay price");
        x.price(2, 5, 0);
        x.price(1, 6, 0);
        x.price(3, 7, 0);
        due(x.due(0, 0, 0, 4), 5);
        x.price(2, 4, 1);
        due(x.due(0, 0, 0, 4), 5);
        due(x.due(0, 0, 1, 1), 4);
    }

    private static void force() {
        promise = 20;
        Told x = landed();
        contract(x, "window 0 to 5; fine late");
        due(x.force(-1, 0, 0), -1);
        due(x.force(1, 0, 0), -1);
        due(x.force(0, 2400, 0), -1);
        due(x.force(0, 0, -1), -1);
        due(x.force(0, 0, 2400), -1);
        due(x.status(), -1);
        due(x.landing(0, 3), 21);
        due(x.due(0, 0, 0, 3), 16);
        due(x.force(0, 6, 3), 1);
        due(x.force(8, 10, 4), 2);
        due(x.force(9, 12, 4), 3);
        due(x.force(21, 2399, 5), 4);
        due(x.due(0, 0, 2, 3), 16);
        due(x.due(0, 0, 3, 3), 15);
        due(x.due(0, 0, 4, 3), 10);
        due(x.due(0, 0, 5, 2), 9);
        due(x.force(13, 20, 6), 5);
        due(x.due(0, 0, 6, 3), 1);
        for (int n = 6; n <= 20; n++) {
            due(x.force(0, 2399, 2399), n);
        }
        due(x.force(0, 0, 0), -5);
        due(x.due(0, 0, 2399, 0), 0);
    }

    private static void bills() {
        promise = 21;
        Told x = landed();
        contract(x, "pay billed; fine tons");
        due(x.due(0, 0, 0, 0), 0);
        due(x.bill(0, -1), -1);
        due(x.bill(0, 200_001), -1);
        due(x.bill(1, 200_001), -1);
        due(x.bill(1, 1), -2);
        due(x.bill(-1, 1), -2);
        due(x.bill(0, 0), 0);
        due(x.status(), 0);
        due(x.due(0, 0, 0, 0), -600);
        due(x.bill(0, 5), -4);
        due(x.status(), -4);
        due(x.bill(0, 200_001), -1);
    }

    private static void feeds() {
        promise = 22;
        Told x = new Told();
        for (int n = 1; n <= 20; n++) {
            due(x.feed(MIN, MAX, -1, 0, 1), 20 * n);
        }
        due(x.feed(0, 0, 0, 0, 0), -1);
        due(x.count(8), 400);
        x.end(381);
        due(x.feed(0, 0, 0, 0, 0), -1);
        x.end(380);
        due(x.feed(0, 0, 0, 0, 0), 400);
        // The highest byte comes first.
        x.end(0);
        x.feed(0x70617920, 0x20203137, 0x3b206669, 0x6e652032, 0);
        x.end(16);
        due(x.contract(), 0);
    }

    private static void ends() {
        promise = 23;
        Told x = new Told();
        due(x.end(0), 0);
        due(x.end(1), -1);
        due(x.end(-1), -1);
        x.feed(1, 2, 3, 4, 5);
        due(x.end(21), -1);
        due(x.count(8), 20);
        due(x.end(20), 20);
        due(x.end(7), 7);
        due(x.end(8), -1);
        due(x.count(8), 7);
    }

    private static void contracts() {
        promise = 24;
        Told x = new Told();
        due(x.contract(), -6);
        due(x.status(), -6);
        for (int n = 0; n < 12; n++) {
            due(contract(x, "pay 1"), n);
            due(x.status(), 0);
            due(x.count(8), 0);
        }
        feed(x, "pay");
        due(x.contract(), -5);
        due(x.status(), -5);
        due(x.fault(), -1);
        due(x.count(5), 12);
        // The TAPE is empty behind a call for which there was no room, too; it was not read, so FAULT stays.
        due(x.count(8), 0);
        due(x.feed(0, 0, 0, 0, 0), 20);
        due(x.contract(), -5);
        due(x.contract(), -5);
        due(x.count(8), 0);
        due(x.count(5), 12);
        due(x.fault(), -1);
    }

    private static void contractsWithoutRoom() {
        promise = 24;
        Told x = new Told();
        for (int n = 0; n < 11; n++) {
            due(contract(x, "pay 1"), n);
        }
        x.image(0);
        due(contract(x, "pay 1 !"), -6);
        due(x.count(8), 0);
        due(x.fault(), 6);
        due(contract(x, "pay 1"), 11);
        due(x.fault(), -1);
        x.back(0);
        due(contract(x, "pay !"), -6);
        x.image(1);
        due(contract(x, "pay 2"), 11);
        x.image(0);
        x.back(1);
        due(contract(x, "pay 1 !"), -6);
        x.back(0);
        // Neither a good TEXT nor one that can't be is read: FAULT stays that of the one ahead.
        due(contract(x, "pay 1"), -5);
        due(x.fault(), 6);
        due(x.count(8), 0);
        due(contract(x, "pay"), -5);
        due(x.fault(), 6);
        due(x.count(8), 0);
        // What was on the TAPE is not found there again once there is room.
        feed(x, "pay 1;");
        due(x.contract(), -5);
        x.back(1);
        due(x.contract(), -6);
        due(x.fault(), 0);
        due(contract(x, "pay 7"), 11);
    }

    private static void faults() {
        promise = 25;
        due(faultOf("window0to2399;at 5;fine[tons]if not(1<2)"), -1);
        due(faultOf(""), 0);
        due(faultOf("   "), 3);
        due(faultOf("pay 1;"), 6);
        due(faultOf("pay 1 ; "), 8);
        due(faultOf("pay 1 1"), 6);
        due(faultOf("paytons"), 0);
        due(faultOf("payz 1"), 0);
        due(faultOf("pay tonsz"), 4);
        due(faultOf("pay 1 az"), 6);
        due(faultOf("pay Tons"), 4);
        due(faultOf("pay \u00e9"), 4);
        due(faultOf("pay 1\n"), 5);
        due(faultOf("window 2400 to 2401"), 7);
        due(faultOf("window 5 to 5"), -1);
        due(faultOf("window 5 to 2400"), 12);
        due(faultOf("window 5 at 6"), 9);
        due(faultOf("window to"), 7);
        due(faultOf("at tons"), 3);
        due(faultOf("at 000005"), -1);
        due(faultOf("pay 100000"), -1);
        due(faultOf("pay 100001"), 4);
        due(faultOf("pay 99999999999999999999999"), 4);
        due(faultOf("pay 4294967296"), 4);
        due(faultOf("pay 00000000000000000000000000000000001"), -1);
        due(faultOf("pay (1)"), 4);
        due(faultOf("pay -1"), 4);
        due(faultOf("pay 1 if 1"), 10);
        due(faultOf("pay 1 if 1<2<3"), 12);
        due(faultOf("pay 1 if [1<2]"), 11);
        due(faultOf("pay 1 if (1)<2"), 11);
        due(faultOf("pay 1 if not not not 1=1 and not(1=1 or 2=2)"), -1);
        due(faultOf("pay 1 if (1=1]"), 13);
        due(faultOf("pay 1 if 1=1 xor 1=1"), 13);
        due(faultOf("pay 1 if 1=1 or"), 15);
    }

    private static void faultLimits() {
        promise = 25;
        String twelve = "pay 1;".repeat(11) + "pay 1";
        due(faultOf(twelve), -1);
        due(faultOf(twelve + ";pay 1"), 72);
        due(faultOf(twelve + ";"), 72);
        due(faultOf(twelve + " ; !"), 74);
        String fifty = "pay 1" + "+1".repeat(49);
        due(faultOf(fifty), -1);
        due(faultOf(fifty + "+1"), 104);
        due(faultOf(fifty + ";window 1 to 2;at 3"), -1);
        due(faultOf(fifty + ";fine late"), 109);
        due(faultOf(fifty + "+[1]"), 105);
        due(faultOf("pay " + "[".repeat(8) + "1" + "]".repeat(8)), -1);
        due(faultOf("pay " + "[".repeat(9) + "1" + "]".repeat(9)), 12);
        due(faultOf("pay 1 if " + "(".repeat(4) + "[".repeat(4) + "1" + "]".repeat(4) + "=1" + ")".repeat(4)), -1);
        due(faultOf("pay 1 if " + "(".repeat(4) + "[".repeat(5) + "1" + "]".repeat(5) + "=1" + ")".repeat(4)), 17);
        due(faultOf("pay 1 if " + "not ".repeat(96) + "1=1"), -1);
        due(faultOf("pay [1]*[[1]]+[1] if ([1]=1) and (1=1)"), -1);
        Told x = new Told();
        due(x.fault(), -1);
        contract(x, "pay !");
        due(x.fault(), 4);
        contract(x, "pay 1");
        due(x.fault(), -1);
    }

    private static long dueOf(String text) {
        Told x = landed();
        x.price(0, 3, 0);
        x.bill(0, 610);
        return contract(x, text) == 0 ? x.due(0, 0, 0, 0) : -99;
    }

    private static void dues() {
        promise = 26;
        due(dueOf("pay tons"), 600);
        due(dueOf("pay billed"), 610);
        due(dueOf("pay heat"), 1000);
        due(dueOf("pay price"), 3);
        due(dueOf("pay hours"), 2);
        due(dueOf("pay late"), 0);
        due(dueOf("window 0 to 19;pay late"), 2);
        due(dueOf("window 0 to 20;pay late"), 1);
        due(dueOf("window 22 to 30;pay early"), 2);
        due(dueOf("window 20 to 30;pay early"), 0);
        due(dueOf("window 30 to 40;window 0 to 19;pay early*10+late"), 2);
        due(dueOf("pay elsewhere"), 1);
        due(dueOf("window 0 to 19;fine 7*elsewhere"), -7);
        due(dueOf("pay 3 if elsewhere=1;fine 5 if not elsewhere=1"), 3);
        due(dueOf("at 1;pay elsewhere"), 0);
        due(dueOf("at 0;pay elsewhere"), 1);
        due(dueOf("at 5;pay elsewhere"), 1);
        due(dueOf("at 0;pay elsewhere;at 1"), 0);
        due(dueOf("pay elsewhere;at 1"), 0);
        due(dueOf("at 1;pay elsewhere;at 0"), 1);
        due(dueOf("pay 2+3*4-5"), 9);
        due(dueOf("pay 10-3-2"), 5);
        due(dueOf("pay [2+3]*4"), 20);
        due(dueOf("pay [0-7]/2"), -3);
        due(dueOf("pay 7/[0-2]"), -3);
        due(dueOf("pay 5;fine 7;pay 1"), -1);
        due(dueOf("pay 5/0;fine 7"), -7);
        due(dueOf("pay 5/[1-1];pay 2 if 1/0=1;pay 3 if 1=1 or 1/0=1;pay 4 if 1=2 and 1/0=1"), 3);
        due(dueOf("pay 2 if 1=2 or 1/0=1;pay 4 if 1=1 and 1/0=1;pay 8 if not 1/0=1;pay 16 if 1/0=1 or 1=1"), 0);
        due(dueOf("pay 1 if 1=2 and 1=2 or 1=1"), 1);
        due(dueOf("pay 1 if 1=1 or 1=2 and 1=2"), 1);
        due(dueOf("pay 1 if (1=1 or 1=2) and 1=2"), 0);
        due(dueOf("pay 1 if not 1=2;pay 2 if not not 1=2;pay 4 if not (1=2 or 2=2)"), 1);
        due(dueOf("pay 1 if 1<2;pay 2 if 2<2;pay 4 if 2>1;pay 8 if 2>2;pay 16 if 2=2"), 21);
        due(dueOf("pay 100000*100000*100"), 1_000_000_000_000L);
        due(dueOf("pay 100000*100000*100+1"), 0);
        due(dueOf("pay 100000*100000*100+1-1"), 0);
        due(dueOf("pay 1-100000*100000*100-1"), -1_000_000_000_000L);
        due(dueOf("pay 0-100000*100000*100-1"), 0);
        due(dueOf("pay 100000*100000*100*[0-1]"), -1_000_000_000_000L);
        due(dueOf("pay 100000*100000*100*[100000*100000*100]"), 0);
        due(dueOf("pay 100000*100000*100*0"), 0);
        due(dueOf("pay 1+65536*65536*[65536*65536]"), 0);
        due(dueOf("pay 1+[65536*65536*16]*[65536*65536*16]"), 0);
        due(dueOf("pay 1+65536*65536*2"), 8_589_934_593L);
        due(dueOf("pay 5 if 100000*100000*100*100>1"), 0);
    }

    private static void dueOfNone() {
        promise = 26;
        Told x = landed();
        contract(x, "window 0 to 20;pay 5;fine 7");
        due(x.due(0, 0, 0, 0), -2);
        due(x.due(0, 0, 0, 1), 5);
        due(x.due(0, 0, 0, 2), 7);
        due(x.due(0, 0, 2399, 3), 1);
        due(x.due(0, 0, 2399, 4), 0);
        due(x.due(0, 0, 0, 5), NOTHING);
        due(x.due(0, 0, 0, -1), NOTHING);
        due(x.due(1, 0, 0, 0), NOTHING);
        due(x.due(-1, 0, 0, 0), NOTHING);
        due(x.due(0, 1, 0, 0), NOTHING);
        due(x.due(0, -1, 0, 0), NOTHING);
        due(x.due(0, 0, -1, 0), NOTHING);
        due(x.due(0, 0, 2400, 0), NOTHING);
    }

    private static void settles() {
        promise = 27;
        Told x = landed();
        due(x.settle(0, 0), -2);
        contract(x, "pay price");
        contract(x, "pay 5");
        due(x.settle(1, 0), -2);
        due(x.settle(-1, 0), -2);
        due(x.settle(0, 2), -2);
        due(x.status(), -2);
        x.price(0, 9, 22);
        x.price(0, 11, 23);
        due(x.settle(0, 0), 0);
        due(x.status(), 0);
        due(x.landing(0, 6), 1);
        due(x.settle(0, 1), -4);
        due(x.settle(0, 2), -2);
        promise = 28;
        x.go(5);
        x.price(0, 12, 0);
        due(x.settled(0, 0), 9);
        due(x.settled(0, 1), 0);
        due(x.settled(0, 2), 22);
        due(x.settled(0, 3), NOTHING);
        due(x.settled(0, -1), NOTHING);
        due(x.settled(1, 0), NOTHING);
        Told y = landed();
        due(y.settled(0, 0), NOTHING);
        due(y.landing(0, 6), 0);
    }

    private static void settlesElsewhere() {
        promise = 28;
        String[] texts = {"pay 9*elsewhere", "at 1;pay 9*elsewhere", "at 0;pay 9*elsewhere", "pay 9*elsewhere;at 1"};
        long[] dues = {9, 0, 9, 0};
        Told x = landed();
        for (String text : texts) {
            contract(x, text);
        }
        x.image(0);
        for (int c = 0; c < texts.length; c++) {
            due(x.settle(0, c), 0);
            due(x.settled(0, 0), dues[c]);
            due(x.settled(0, 1), c);
            due(x.back(0), 0);
        }
    }

    private static void tables() {
        promise = 29;
        Told x = landed();
        due(x.table(0, -1, 0, 0), -1);
        due(x.table(0, 4, 0, 0), -1);
        due(x.table(0, 0, -1, 0), -1);
        due(x.table(0, 0, 5001, 0), -1);
        due(x.table(0, 0, 0, -1), -1);
        due(x.table(0, 0, 0, 200_001), -1);
        due(x.table(1, 0, 0, 0), -2);
        due(x.status(), -2);
        x.reading(0, 0, 150, 0, 0);
        due(x.table(0, 3, 5000, 200_000), 0);
        due(x.table(0, 1, 100, 1000), 0);
        due(x.table(0, 0, 50, 900), 0);
        due(x.gauged(0, 0, 0), NOTHING);
        due(x.table(0, 2, 203, 1100), 0);
        due(x.gauged(0, 0, 0), 1048);
        due(x.table(0, 2, 100, 1100), 0);
        due(x.gauged(0, 0, 0), NOTHING);
        due(x.table(0, 2, 101, 999), 0);
        due(x.gauged(0, 0, 0), NOTHING);
        due(x.table(0, 2, 101, 1000), 0);
        due(x.table(0, 0, 100, 900), 0);
        due(x.gauged(0, 0, 0), NOTHING);
        due(x.table(0, 0, 50, 1001), 0);
        due(x.gauged(0, 0, 0), NOTHING);
        due(x.table(0, 0, 50, 1000), 0);
        due(x.gauged(0, 0, 0), 1000 + 49L * 199_000 / 4899);
        due(x.status(), 0);
    }

    private static Told gauge() {
        Told x = landed();
        x.table(0, 0, 10, 7);
        x.table(0, 1, 100, 1000);
        x.table(0, 2, 200, 2000);
        x.table(0, 3, 300, 4000);
        return x;
    }

    private static void lists() {
        promise = 30;
        Told x = gauge();
        due(x.list(0, -51), -1);
        due(x.list(0, 51), -1);
        due(x.list(9, 51), -1);
        due(x.list(1, 0), -2);
        due(x.list(0, -1), 0);
        due(x.status(), 0);
        due(x.list(0, 50), -1);
        due(x.status(), 0);
        x.reading(0, 0, 250, 1, 0);
        x.reading(0, 1, 250, -1, 0);
        due(x.gauged(0, 0, 0), 2000);
        due(x.gauged(0, 0, 1), 4000);
        due(x.list(0, -50), 50);
        due(x.gauged(0, 0, 0), 4000);
        due(x.gauged(0, 0, 2), 2000);
        x.reading(0, 1, 250, -5, 0);
        due(x.gauged(0, 0, 1), 7);
        x.reading(0, 1, 250, 20, 0);
        due(x.gauged(0, 0, 1), 4000);
    }

    private static void readings() {
        promise = 31;
        Told x = gauge();
        due(x.reading(0, -1, 0, 0, 0), -1);
        due(x.reading(0, 2, 0, 0, 0), -1);
        due(x.reading(0, 0, -1, 0, 0), -1);
        due(x.reading(0, 0, 5001, 0, 0), -1);
        due(x.reading(0, 0, 0, -21, 0), -1);
        due(x.reading(0, 0, 0, 21, 0), -1);
        due(x.reading(0, 0, 0, 0, -1), -1);
        due(x.reading(0, 0, 0, 0, 2400), -1);
        due(x.reading(1, 0, 0, 0, 0), -2);
        due(x.status(), -2);
        due(x.reading(0, 0, 100, 0, 8), 1);
        due(x.reading(0, 0, 200, 0, 5), 2);
        due(x.gauged(0, 4, 0), NOTHING);
        due(x.gauged(0, 5, 0), 2000);
        due(x.gauged(0, 8, 0), 2000);
        due(x.reading(0, 0, 110, -20, 6), 3);
        due(x.gauged(0, 5, 0), 2000);
        due(x.gauged(0, 6, 0), 1100);
        for (int n = 4; n <= 60; n++) {
            due(x.reading(0, 1, 5000, 20, 2399), n);
        }
        due(x.reading(0, 1, 0, 0, 0), -5);
        due(x.reading(1, 1, 0, 0, 0), -2);
        due(x.count(7), 60);
    }

    private static void gauged() {
        promise = 32;
        Told x = gauge();
        due(x.gauged(0, 0, 0), NOTHING);
        x.reading(0, 0, 155, 0, 3);
        due(x.gauged(0, 3, 0), 1550);
        due(x.gauged(0, 3, 1), NOTHING);
        due(x.gauged(0, 3, 2), NOTHING);
        due(x.gauged(0, 3, 3), NOTHING);
        x.reading(0, 1, 11, 0, 4);
        due(x.gauged(0, 4, 1), 7 + 993 / 90);
        due(x.gauged(0, 4, 2), 1550 - 18);
        due(x.gauged(0, 4, 3), 0);
        x.price(0, 10, 5);
        due(x.gauged(0, 4, 3), 0);
        due(x.gauged(0, 5, 3), (600 - 1532) * 10);
        x.bill(0, 2000);
        due(x.gauged(0, 5, 3), (2000 - 1532) * 10);
        due(x.gauged(0, 3, 2), NOTHING);
        due(x.gauged(0, 5, 4), NOTHING);
        due(x.gauged(0, 5, -1), NOTHING);
        due(x.gauged(1, 5, 0), NOTHING);
        due(x.gauged(-1, 5, 0), NOTHING);
        due(x.gauged(0, -1, 0), NOTHING);
        due(x.gauged(0, 2400, 0), NOTHING);
    }

    /** Three terminals (RATES 100, 100, 50), ships at 0 and 2, no boiling. */
    private static Told fleet() {
        Told x = new Told();
        x.terminal(0, 0, 100, 0);
        x.terminal(0, 0, 100, 0);
        x.terminal(0, 0, 50, 0);
        x.ship(0, 1000, 1);
        x.ship(2, 1000, 1);
        x.way(0, 1, 10, true);
        x.way(1, 2, 20, false);
        x.terms(0, 700);
        return x;
    }

    private static void cargoes() {
        promise = 33;
        Told x = fleet();
        due(x.cargo(0, 1, -1, 0, 0, 0, 1, 0), -1);
        due(x.cargo(0, 1, 1, 0, 0, 0, 1, 0), -1);
        due(x.cargo(0, 1, 0, 2400, 0, 0, 1, 0), -1);
        due(x.cargo(0, 1, 0, 0, 1, 0, 1, 0), -1);
        due(x.cargo(0, 1, 0, 0, 0, 2400, 1, 0), -1);
        due(x.cargo(0, 1, 0, 0, -1, 0, 1, 0), -1);
        due(x.cargo(0, 1, 0, 0, 0, 0, 0, 0), -1);
        due(x.cargo(0, 1, 0, 0, 0, 0, 200_001, 0), -1);
        due(x.cargo(0, 1, 0, 0, 0, 0, 1, -1), -1);
        due(x.cargo(0, 1, 0, 0, 0, 0, 1, 1001), -1);
        due(x.cargo(3, 1, 0, 0, 0, 0, 1, 0), -2);
        due(x.cargo(3, 3, 0, 0, 0, 0, 1, 0), -2);
        due(x.cargo(0, -1, 0, 0, 0, 0, 1, 0), -2);
        due(x.cargo(1, 1, 0, 0, 0, 0, 1, 0), -3);
        due(x.status(), -3);
        due(x.cargo(0, 1, 0, 2399, 0, 2399, 200_000, 1000), 1);
        for (int n = 2; n <= 6; n++) {
            due(x.cargo(0, 1, 0, 0, 0, 0, 1, 0), n);
        }
        due(x.cargo(0, 1, 0, 0, 0, 0, 1, 0), -5);
        due(x.cargo(1, 1, 0, 0, 0, 0, 1, 0), -3);
        due(x.count(6), 6);
        promise = 34;
        due(x.clear(), 6);
        due(x.clear(), 0);
        due(x.count(6), 0);
        due(x.status(), -3);
        due(x.cargo(0, 1, 0, 0, 0, 0, 1, 0), 1);
    }

    private static void best() {
        promise = 35;
        Told x = fleet();
        due(x.best(-1), -1);
        due(x.best(2400), -1);
        due(x.best(0), 0);
        x.cargo(0, 1, 0, 10, 0, 50, 200, 5);
        due(x.best(0), 0);
        due(x.voyage(0, 0), -1);
        x.clear();
        x.cargo(0, 1, 0, 10, 0, 50, 200, 20);
        x.cargo(2, 1, 0, 10, 0, 50, 100, 50);
        x.cargo(1, 0, 0, 99, 0, 99, 100, 20);
        due(x.best(0), 3000 + 3000 + 1000);
        due(x.voyage(0, 0), 0);
        due(x.voyage(1, 0), 1);
        due(x.voyage(2, 0), 0);
        due(x.voyage(2, 1), 1);
        due(x.best(11), 0);
        due(x.best(10), 7000);
        due(x.status(), 0);
    }

    /** Of alike ones the first as a row of numbers: the SHIPS first, then the places. */
    private static void alikeBest() {
        promise = 35;
        Told x = new Told();
        x.terminal(0, 0, 100, 0);
        x.terminal(0, 0, 100, 0);
        for (int s = 0; s < 4; s++) {
            x.ship(0, 1000, 1);
        }
        x.way(0, 1, 1, false);
        x.terms(0, 700);
        x.cargo(0, 1, 0, 900, 0, 900, 100, 20);
        due(x.best(0), 1900);
        due(x.voyage(0, 0), 0);
        x.cargo(0, 1, 0, 0, 0, 900, 100, 20);
        due(x.best(0), 3800);
        due(x.voyage(0, 0), 0);
        due(x.voyage(1, 0), 1);
        x.cargo(0, 1, 0, 0, 0, 900, 100, 20);
        x.cargo(0, 1, 0, 0, 0, 900, 100, 20);
        // Ship 3 has no voyage: one of the three cargoes for HOUR 0 gives way to none, for going back costs 100.
        due(x.best(0), 3 * 1900 + 1800);
        due(x.voyage(0, 0), 0);
        due(x.voyage(0, 1), 1);
        due(x.voyage(1, 0), 0);
        due(x.voyage(2, 0), 1);
        due(x.voyage(3, 0), 2);
        x.clear();
        x.cargo(1, 0, 0, 900, 0, 900, 100, 20);
        x.cargo(0, 1, 0, 900, 0, 900, 100, 20);
        x.cargo(0, 1, 0, 900, 0, 900, 100, 20);
        due(x.best(0), 1900 + 1900 + 1900);
        due(x.voyage(0, 0), 0);
        due(x.voyage(0, 1), 1);
        due(x.voyage(1, 0), 0);
        due(x.voyage(1, 1), 0);
        due(x.voyage(2, 0), 0);
        due(x.voyage(2, 1), 2);
    }

    /** One cargo of 1500 is ahead of two of 1500 together, also if its number is greater. */
    private static void fewestCargoes() {
        promise = 35;
        Told x = new Told();
        x.terminal(0, 0, 100, 0);
        x.terminal(0, 0, 100, 0);
        x.ship(0, 1000, 1);
        x.way(0, 1, 1, false);
        x.terms(0, 700);
        x.cargo(0, 1, 0, 0, 0, 9, 100, 11);
        x.cargo(1, 0, 0, 9, 0, 99, 100, 6);
        due(x.best(0), 1500);
        due(x.voyage(1, 1), 1);
        x.cargo(0, 1, 0, 0, 50, 60, 100, 16);
        due(x.best(0), 1500);
        due(x.voyage(0, 0), -1);
        due(x.voyage(1, 0), -1);
        due(x.voyage(2, 0), 0);
        due(x.voyage(2, 3), 50);
    }

    private static void voyages() {
        promise = 36;
        Told x = fleet();
        x.cargo(0, 1, 5, 10, 30, 50, 200, 20);
        x.cargo(1, 2, 0, 99, 0, 99, 130, 40);
        x.cargo(0, 2, 0, 99, 0, 99, 130, 40);
        due(x.voyage(0, 0), NOTHING);
        due(x.best(0), 3000 + 3200);
        due(x.voyage(0, 0), 0);
        due(x.voyage(0, 1), 0);
        due(x.voyage(0, 2), 5);
        due(x.voyage(0, 3), 30);
        due(x.voyage(0, 4), 3000);
        due(x.voyage(1, 0), 0);
        due(x.voyage(1, 1), 1);
        due(x.voyage(1, 2), 32);
        due(x.voyage(1, 3), 54);
        due(x.voyage(1, 4), 3200);
        due(x.voyage(2, 0), -1);
        due(x.voyage(2, 1), NOTHING);
        due(x.voyage(2, 4), NOTHING);
        due(x.voyage(2, 5), NOTHING);
        due(x.voyage(0, 5), NOTHING);
        due(x.voyage(0, -1), NOTHING);
        due(x.voyage(3, 0), NOTHING);
        due(x.voyage(-1, 0), NOTHING);
        // The latest stays till there is a new one, whatever becomes of the cargoes.
        x.image(0);
        x.clear();
        x.best(2400);
        due(x.voyage(1, 3), 54);
        x.best(0);
        due(x.voyage(1, 3), NOTHING);
        x.back(0);
        due(x.voyage(1, 3), NOTHING);
        due(x.best(0), 6200);
        due(x.voyage(1, 3), 54);
    }

    private static void judges() {
        promise = 37;
        Told x = fleet();
        x.cargo(0, 1, 5, 10, 0, 50, 200, 20);
        x.cargo(1, 2, 0, 40, 0, 99, 130, 40);
        x.cargo(2, 1, 0, 99, 0, 99, 100, 50);
        due(x.judge(0, -1, -1, -1, 0), 0);
        due(x.judge(0, -1, 9, 9, 0), 0);
        due(x.judge(0, 0, -1, 9, 0), 3000);
        due(x.judge(0, 0, 1, -1, 0), 6200);
        due(x.judge(0, 0, 1, 2, 0), 9200);
        due(x.judge(0, 0, 1, 0, 0), NOTHING);
        due(x.judge(0, 0, -2, -1, 0), NOTHING);
        due(x.judge(0, 3, -1, -1, 0), NOTHING);
        due(x.judge(0, MAX, -1, -1, 0), NOTHING);
        due(x.judge(0, 2, -1, -1, 0), NOTHING);
        due(x.judge(2, -1, -1, -1, 0), NOTHING);
        due(x.judge(-1, -1, -1, -1, 0), NOTHING);
        due(x.judge(0, -1, -1, -1, -1), NOTHING);
        due(x.judge(0, -1, -1, -1, 2400), NOTHING);
        due(x.judge(1, 2, -1, -1, 0), 3000);
        due(x.judge(1, 1, -1, -1, 0), 1200);
        due(x.judge(1, 1, -1, -1, 20), 1200);
        due(x.judge(1, 1, -1, -1, 21), NOTHING);
        due(x.judge(0, 0, -1, -1, 10), 3000);
        due(x.judge(0, 0, -1, -1, 11), NOTHING);
        // Loading 130 tons at 100 an HOUR takes two HOURS, landing them at 50 an HOUR three.
        x.broken(1, 16, 30);
        x.broken(1, 33, 33);
        due(x.judge(0, 0, 1, -1, 0), 6200);
        x.best(0);
        due(x.voyage(0, 3), 17);
        due(x.voyage(1, 2), 33);
        due(x.voyage(1, 3), 56);
        due(x.voyage(2, 0), 0);
        due(x.voyage(2, 2), 59);
    }

    private static void judgeEdges() {
        promise = 37;
        Told x = fleet();
        x.cargo(0, 1, 2387, 2387, 2398, 2399, 100, 20);
        x.cargo(0, 1, 2386, 2387, 2399, 2399, 101, 20);
        x.cargo(0, 1, 0, 2399, 0, 2399, 980, 20);
        x.cargo(0, 1, 0, 2399, 0, 2399, 981, 20);
        x.cargo(0, 1, 2388, 2388, 2399, 2399, 100, 20);
        due(x.judge(0, 0, -1, -1, 0), 1000);
        due(x.judge(0, 1, -1, -1, 0), NOTHING);
        due(x.judge(0, 2, -1, -1, 0), 18_600);
        due(x.judge(0, 3, -1, -1, 0), NOTHING);
        due(x.judge(0, 4, -1, -1, 0), 1000);
        x.broken(1, 2399, 2399);
        due(x.judge(0, 4, -1, -1, 0), NOTHING);
        due(x.judge(0, 0, -1, -1, 0), 1000);
        x.terms(100, 700);
        // 980 tons, from HOUR 0 up to 20: 19 are boiled.
        due(x.judge(0, 2, -1, -1, 0), (980 - 19) * 20 - 1000);
        Told y = fleet();
        for (int s = 2; s < 4; s++) {
            y.ship(0, 1000, 1);
        }
        y.cargo(0, 1, 0, 99, 0, 99, 100, 20);
        due(y.judge(2, 0, -1, -1, 0), 1000);
        due(y.judge(3, 0, -1, -1, 0), NOTHING);
        // At sea it is reckoned as being where it goes.
        y.order(0, 0, 1);
        y.go(1);
        due(y.judge(0, 0, -1, -1, 0), 0);
    }

    /** 200 tons for 50 HOURS at 10 are just 100,000: one ton; and no more boil than there are. */
    private static void boiledOnPaper() {
        promise = 37;
        Told x = fleet();
        x.cargo(0, 1, 0, 0, 50, 60, 200, 10);
        x.cargo(0, 1, 0, 0, 49, 60, 200, 10);
        x.cargo(0, 1, 0, 0, 2399, 2399, 50, 1000);
        x.terms(10, 700);
        due(x.judge(0, 0, -1, -1, 0), 199 * 10 - 1000);
        due(x.judge(0, 1, -1, -1, 0), 200 * 10 - 1000);
        x.terms(100, 700);
        due(x.judge(0, 2, -1, -1, 0), -1000);
    }

    private static void images() {
        promise = 38;
        Told x = landed();
        due(x.image(-1), -1);
        due(x.image(2), -1);
        due(x.back(2), -1);
        due(x.back(-1), -1);
        due(x.back(0), -2);
        due(x.status(), -2);
        due(x.image(0), 0);
        due(x.status(), 0);
        promise = 39;
        contract(x, "pay 1");
        x.image(1);
        x.go(100);
        x.terminal(1, 1, 1, 1);
        x.ship(0, 1000, 1);
        x.way(0, 1, 99, true);
        x.tide(0, 5);
        x.sea(0, 5);
        x.slot(0, 1, 0, 0);
        x.heat(0, 500);
        x.price(0, 5, 0);
        x.force(0, 9, 0);
        x.bill(0, 1);
        x.settle(0, 0);
        x.list(0, 9);
        x.reading(0, 0, 0, 0, 0);
        x.cargo(0, 1, 0, 99, 0, 99, 100, 20);
        x.order(0, 3, 2399);
        contract(x, "pay 2");
        feed(x, "pay !");
        x.contract();
        feed(x, "pay");
        due(x.back(0), 0);
        due(x.count(0), 22);
        due(x.count(1), 2);
        due(x.count(2), 1);
        due(x.count(3), 2);
        due(x.count(5), 0);
        due(x.count(6), 0);
        due(x.count(7), 0);
        due(x.count(8), 3);
        due(x.fault(), 4);
        due(x.landing(0, 5), 1000);
        due(x.landing(0, 6), 0);
        due(x.bill(0, 600), 0);
        due(x.price(0, 0, 0), 1);
        due(x.force(0, 0, 0), 1);
        due(x.list(0, 0), 0);
        due(x.of(0, 6), 0);
        due(contract(x, "pay 7"), 0);
        due(x.due(0, 0, 0, 0), 7);
        due(x.back(1), 0);
        due(x.due(0, 0, 0, 0), 1);
        due(x.settle(0, 0), 0);
        due(x.back(1), 0);
        due(x.landing(0, 6), 0);
        x.way(0, 1, 1, false);
        x.order(0, 0, 0);
        x.go(1);
        due(x.of(0, 0), 0);
        due(x.back(0), 0);
        due(x.of(0, 0), 1);
        due(x.of(0, 2), 360);
    }

    /** A ship under way, a LANDING under way, and orders given are gone back to as well. */
    private static void imagesUnderWay() {
        promise = 39;
        Told x = harbour(1);
        x.order(0, 1, 1000);
        x.order(0, 0, 1);
        x.order(0, 2, 600);
        x.go(21);
        x.image(0);
        x.go(5);
        due(x.landing(0, 4), 600);
        x.back(0);
        due(x.count(4), 0);
        due(x.of(0, 7), 300);
        x.go(1);
        due(x.landing(0, 2), 20);
        due(x.landing(0, 3), 21);
        due(x.landing(0, 4), 600);
        due(x.led(0, 0), 600);
    }

    /** Ships and terminals made anew under a number have nothing of those that were gone back behind. */
    private static void bornAnew() {
        promise = 39;
        Told x = new Told();
        x.image(0);
        x.terminal(5000, 5000, 400, 30);
        x.terminal(5000, 6000, 400, 30);
        x.way(0, 1, 5, true);
        x.ship(0, 1000, 50);
        x.slot(0, 0, 0, 99);
        x.terms(100, 9);
        x.order(0, 1, 900);
        x.order(0, 2, 600);
        x.broken(0, 10, 19);
        x.table(0, 0, 0, 0);
        x.list(0, 7);
        x.go(12);
        x.image(1);
        due(x.of(0, 7), 200);
        x.back(0);
        due(x.count(1), 0);
        x.terminal(1000, 1000, 40, 8);
        x.terminal(0, 2000, 20, 8);
        x.ship(1, 2000, 1);
        due(x.of(0, 0), 1);
        due(x.of(0, 2), 0);
        due(x.of(0, 3), 0);
        due(x.of(0, 4), 1800);
        due(x.of(0, 6), 0);
        due(x.part(0, 0), 0);
        due(x.book(0, 0), 0);
        due(x.list(0, 0), 0);
        x.order(0, 0, 0);
        x.go(1);
        due(x.of(0, 0), 1);
        x.way(0, 1, 1, false);
        x.go(1);
        due(x.of(0, 0), 0);
        x.back(1);
        due(x.of(0, 7), 200);
        x.go(9);
        due(x.landing(0, 2), 9);
        due(x.landing(0, 3), 20);
        due(x.landing(0, 4), 600);
        due(x.led(0, 0), 600);
        x.back(1);
        x.back(0);
        x.terminal(1000, 2000, 40, 20);
        x.ship(0, 1000, 1);
        x.slot(0, 0, 0, 99);
        x.order(0, 1, 60);
        x.order(0, 2, 30);
        x.go(7);
        due(x.landing(0, 4), 30);
        due(x.led(0, 0), 30);
        due(x.landing(0, 2), 6);
    }

    /** LIMIT, the orders given, and a LANDING's HOURS so far are gone back to as well. */
    private static void backInTheMidst() {
        promise = 39;
        Told x = harbour(1);
        x.order(0, 1, 1000);
        x.order(0, 0, 1);
        x.order(0, 2, 700);
        x.broken(1, 22, 23);
        x.go(22);
        x.image(0);
        x.back(0);
        x.go(3);
        due(x.landing(0, 2), 20);
        x.order(0, 1, 5);
        x.order(0, 2, 5);
        x.go(5);
        due(x.landing(1, 2), 26);
        x.back(0);
        x.go(3);
        due(x.landing(0, 2), 20);
        due(x.landing(0, 3), 24);
        due(x.count(4), 1);
        x.image(1);
        // Three orders were given ahead of the image.
        for (int n = 0; n < 397; n++) {
            due(x.order(0, 3, 0), n % 20 + 1);
            if (n % 20 == 19) {
                x.go(20);
            }
        }
        x.go(20);
        due(x.order(0, 3, 0), -5);
        x.back(1);
        due(x.order(0, 3, 0), 1);
    }

    /** The last HOUR of a LANDING under way is gone back to, though no tons go any more. */
    private static void backToItsLastHour() {
        promise = 39;
        Told x = new Told();
        x.terminal(5000, 5000, 400, 30);
        x.terminal(0, 600, 300, 30);
        x.ship(0, 10_000, 1);
        x.way(0, 1, 10, false);
        x.slot(0, 0, 0, 99);
        x.slot(1, 0, 0, 99);
        x.order(0, 1, 1000);
        x.order(0, 0, 1);
        x.order(0, 2, 700);
        x.go(22);
        x.image(0);
        x.order(0, 0, 0);
        x.order(0, 2, 5);
        x.go(20);
        due(x.landing(0, 3), 21);
        due(x.landing(1, 3), 33);
        x.back(0);
        due(x.count(4), 0);
        x.go(1);
        due(x.landing(0, 2), 20);
        due(x.landing(0, 3), 21);
        due(x.landing(0, 4), 600);
    }

    private static void counts() {
        promise = 40;
        Told x = landed();
        due(x.count(0), 22);
        due(x.count(1), 2);
        due(x.count(2), 1);
        due(x.count(3), 2);
        due(x.count(4), 1);
        due(x.count(-1), -1);
        due(x.count(9), -1);
        x.feed(1, 2, 3, 4, 5);
        due(x.count(8), 20);
        due(contract(x, "pay 1"), 0);
        due(x.count(5), 1);
        due(x.count(8), 0);
    }

    private static void status() {
        promise = 41;
        Told x = landed();
        due(x.status(), 0);
        due(x.order(0, 9, 9), -1);
        // These are no calls that status() tells of.
        x.feed(1, 2, 3, 4, 5);
        x.end(0);
        x.end(9);
        x.fault();
        x.clear();
        x.best(0);
        x.best(-1);
        x.judge(9, 9, 9, 9, 9);
        x.due(9, 9, 9, 9);
        x.settled(9, 9);
        x.gauged(9, 9, 9);
        x.voyage(9, 9);
        x.of(9, 9);
        x.part(9, 9);
        x.book(9, 9);
        x.store(9);
        x.landing(9, 9);
        x.led(9, 9);
        x.count(9);
        due(x.status(), -1);
        due(x.tide(0, 0), 0);
        due(x.status(), 0);
        due(x.back(0), -2);
        due(x.status(), -2);
        x.image(0);
        x.go(0);
        due(x.status(), -1);
        x.back(0);
        due(x.status(), 0);
    }

    public static void main(String[] args) {
        newObject();
        terminals();
        ships();
        ways();
        wayWaits();
        tides();
        seas();
        slots();
        brokenArms();
        terms();
        orders();
        ordersInAll();
        hours();
        oneOrderAnHour();
        warmth();
        heelAndTop();
        emptyStore();
        drifting();
        driftsOut();
        turns();
        noTurn();
        wayToldAnew();
        draft();
        pressure();
        ventsJustEnough();
        ventsNoneTooMany();
        limitAtFirst();
        cutTons();
        parts();
        alikeRests();
        book();
        store();
        landings();
        mostLandings();
        led();
        heat();
        prices();
        latestDay();
        force();
        bills();
        feeds();
        ends();
        contracts();
        contractsWithoutRoom();
        faults();
        faultLimits();
        dues();
        dueOfNone();
        settles();
        settlesElsewhere();
        tables();
        lists();
        readings();
        gauged();
        cargoes();
        best();
        alikeBest();
        fewestCargoes();
        voyages();
        judges();
        judgeEdges();
        boiledOnPaper();
        images();
        imagesUnderWay();
        bornAnew();
        backInTheMidst();
        backToItsLastHour();
        counts();
        status();
        System.out.println(wrong == 0 ? "all " + asked + " answers are as due" : wrong + " answers are not as due");
        if (wrong != 0) {
            System.exit(1);
        }
    }
}
