/**
 * The last that there is room for and the first that there is none for; which of several reasons a call is REFUSED by;
 * what status() tells behind which calls; the 512 calls of an object.
 */
public final class EdgesOfRoomTest extends Edges {

    // ---------------------------------------------------------------- room

    private static void roomForTerminals() {
        says("TERMINALS 0 .. 5 (6 at most)");
        Told x = new Told();
        for (int n = 0; n < 6; n++) {
            due(x.store(n), NONE);
            due(x.count(1), n);
            due(x.terminal(n, 10 + n, 5, 5), n);
            due(x.status(), 0);
            due(x.store(n), n);
        }
        due(x.count(1), 6);
        refused(x, -5, o -> o.terminal(0, 0, 1, 0));
        refused(x, -5, o -> o.terminal(500_000, 500_000, 10_000, 30));
        refused(x, -1, o -> o.terminal(0, 0, 0, 0));
        refused(x, -1, o -> o.terminal(0, 0, 1, 31));
        refused(x, -1, o -> o.terminal(1, 0, 1, 0));
        due(x.store(5), 5);
        due(x.store(6), NONE);
        accepted(x, 1000, o -> o.heat(5, 500));
        refused(x, -2, o -> o.heat(6, 500));
        accepted(x, 0, o -> o.way(5, 4, 7, true));
        refused(x, -2, o -> o.way(6, 4, 7, true));
        accepted(x, 0, o -> o.ship(5, 1000, 1));
        refused(x, -2, o -> o.ship(6, 1000, 1));
        accepted(x, 1, o -> o.broken(5, 1, 1));
        refused(x, -2, o -> o.broken(6, 1, 1));
        accepted(x, 1, o -> o.cargo(5, 0, 1, 1, 1, 1, 1, 1));
        refused(x, -2, o -> o.cargo(6, 0, 1, 1, 1, 1, 1, 1));
        accepted(x, 1, o -> o.cargo(0, 5, 1, 1, 1, 1, 1, 1));
        refused(x, -2, o -> o.cargo(0, 6, 1, 1, 1, 1, 1, 1));
    }

    private static void roomForShips() {
        says("SHIPS 0 .. 5 (6 at most)");
        Told x = new Told();
        x.terminal(9, 9, 1, 30);
        for (int n = 0; n < 6; n++) {
            due(x.of(n, WHERE), NONE);
            due(x.count(2), n);
            due(x.ship(0, 1000 + n, 1 + n), n);
            due(x.status(), 0);
            due(x.of(n, WHERE), 0);
        }
        due(x.count(2), 6);
        refused(x, -5, o -> o.ship(0, 1000, 1));
        refused(x, -2, o -> o.ship(1, 1000, 1));
        refused(x, -1, o -> o.ship(0, 999, 1));
        refused(x, -1, o -> o.ship(1, 1000, 51));
        due(x.of(5, WARM), 1800);
        due(x.of(6, WHERE), NONE);
        accepted(x, 1, o -> o.slot(0, 5, 0, 0));
        refused(x, -2, o -> o.slot(0, 6, 0, 0));
        accepted(x, 1, o -> o.order(5, WAIT, 0));
        refused(x, -2, o -> o.order(6, WAIT, 0));
        accepted(x, 0, o -> o.table(5, 0, 0, 0));
        refused(x, -2, o -> o.table(6, 0, 0, 0));
        accepted(x, 0, o -> o.list(5, 7));
        refused(x, -2, o -> o.list(6, 7));
    }

    private static Told twoPorts() {
        Told x = new Told();
        x.terminal(5000, 9000, 400, 30);
        x.terminal(5000, 9000, 400, 30);
        x.ship(0, 1000, 1);
        x.ship(1, 1000, 1);
        x.terms(0, 1000);
        return x;
    }

    private static void roomForSlots() {
        says("SLOTS, 60 at most");
        Told x = twoPorts();
        for (int n = 1; n <= 60; n++) {
            due(x.slot(n % 2, n % 3 == 0 ? 1 : 0, 10 * n, 10 * n + 8), n);
            due(x.status(), 0);
            due(x.count(3), n);
        }
        refused(x, -5, o -> o.slot(0, 0, 0, 0));
        refused(x, -5, o -> o.slot(1, 1, 2399, 2399));
        says("The first of these in that order: slot");
        refused(x, -3, o -> o.slot(0, 0, 20, 20));
        refused(x, -2, o -> o.slot(2, 0, 0, 0));
        refused(x, -2, o -> o.slot(0, 2, 20, 20));
        refused(x, -1, o -> o.slot(2, 2, 20, 19));
        refused(x, -1, o -> o.slot(0, 0, 20, 2400));
        due(x.count(3), 60);
    }

    private static void roomForArms() {
        says("ARMS of a TERMINAL are BROKEN from an HOUR to an HOUR, 20 at most");
        Told x = twoPorts();
        for (int n = 1; n <= 20; n++) {
            due(x.broken(n % 2, n, n + 3), n);
            due(x.status(), 0);
        }
        refused(x, -5, o -> o.broken(0, 0, 0));
        refused(x, -5, o -> o.broken(1, 0, 2399));
        says("The first of these in that order: broken");
        refused(x, -2, o -> o.broken(2, 0, 0));
        refused(x, -1, o -> o.broken(2, 1, 0));
        refused(x, -1, o -> o.broken(0, -1, 0));
        // The twentieth counts as the first does: arms of terminal 0 are BROKEN up to HOUR 23, those of 1 up to 22.
        x.slot(0, 0, 20, 30);
        x.slot(1, 1, 20, 30);
        x.order(0, LOAD, 1);
        x.order(1, LOAD, 1);
        x.go(23);
        due(x.of(0, ORDERS), 1);
        due(x.of(1, ORDERS), 1);
        x.go(1);
        due(x.of(0, ORDERS), 1);
        due(x.of(1, ORDERS), 0);
        x.go(1);
        due(x.of(0, ORDERS), 0);
    }

    private static void roomInARow() {
        says("ORDERS of a SHIP, 20 at most in a row");
        Told x = twoPorts();
        for (int n = 1; n <= 20; n++) {
            due(x.order(0, n % 2 == 0 ? SAIL : WAIT, 0), n);
            due(x.status(), 0);
            due(x.of(0, ORDERS), n);
        }
        refused(x, -5, o -> o.order(0, WAIT, 0));
        refused(x, -5, o -> o.order(0, LOAD, 200_000));
        refused(x, -5, o -> o.order(0, LAND, 1));
        refused(x, -5, o -> o.order(0, SAIL, 1));
        says("The first of these in that order: order");
        refused(x, -2, o -> o.order(0, SAIL, 2));
        refused(x, -2, o -> o.order(2, WAIT, 0));
        refused(x, -1, o -> o.order(2, WAIT, 2400));
        refused(x, -1, o -> o.order(0, LOAD, 0));
        refused(x, -1, o -> o.order(2, LAND, 200_001));
        refused(x, -1, o -> o.order(2, 4, 1));
        refused(x, -1, o -> o.order(0, -1, 1));
        says("What is done is gone from the row");
        accepted(x, 1, o -> o.order(1, WAIT, 0));
        x.go(1);
        due(x.of(0, ORDERS), 19);
        due(x.order(0, WAIT, 0), 20);
        refused(x, -5, o -> o.order(0, WAIT, 0));
    }

    /** 399 ORDERS are given to two ships, with refused ones between; all but one of them are done. */
    private static Told nearlyAll() {
        Told x = twoPorts();
        for (int n = 0; n < 398; n++) {
            x.order(n % 40 / 20, WAIT, 0);
            if (n % 40 == 39) {
                x.go(20);
            }
        }
        x.go(20);
        x.order(2, WAIT, 0);
        x.order(0, WAIT, 2400);
        x.order(0, SAIL, 2);
        x.order(1, WAIT, 1000);
        return x;
    }

    private static void roomForOrdersInAll() {
        says("400 in all");
        Told x = nearlyAll();
        due(x.of(0, ORDERS), 0);
        due(x.of(1, ORDERS), 1);
        due(x.order(0, WAIT, 1000), 1);
        due(x.status(), 0);
        refused(x, -5, o -> o.order(0, WAIT, 0));
        refused(x, -5, o -> o.order(1, LOAD, 1));
        refused(x, -5, o -> o.order(1, SAIL, 0));
        says("The first of these in that order: order");
        refused(x, -2, o -> o.order(2, WAIT, 0));
        refused(x, -2, o -> o.order(0, SAIL, 2));
        refused(x, -1, o -> o.order(0, LOAD, 200_001));
        due(x.order(1, WAIT, 0), -5);
        due(x.status(), -5);
    }

    private static void roomForOrdersIsGoneBackTo() {
        says("BACK to one all is as it was then: 400 in all");
        Told x = nearlyAll();
        x.image(0);
        due(x.order(0, WAIT, 0), 1);
        due(x.order(0, WAIT, 0), -5);
        x.image(1);
        due(x.back(0), 0);
        due(x.order(0, WAIT, 0), 1);
        due(x.order(0, WAIT, 0), -5);
        due(x.back(1), 0);
        due(x.order(0, WAIT, 0), -5);
    }

    /** Ship 0 (1000 tons) at terminal 0 with 980 tons, never warm below the HEEL, nothing lost. */
    private static Told loaded() {
        Told x = new Told();
        x.terminal(5000, 9000, 4000, 30);
        x.ship(0, 1000, 1);
        x.terms(0, 1000);
        x.slot(0, 0, 0, 2399);
        x.order(0, LOAD, 980);
        x.go(1);
        return x;
    }

    /** LANDINGS of 1, 2, .. tons in the HOURS 1, 2, .. */
    private static Told landings(int many) {
        Told x = loaded();
        for (int n = 1; n <= many; n++) {
            x.order(0, LAND, n);
            x.go(1);
        }
        return x;
    }

    private static void roomForLandings() {
        says("A LANDING, 60 at most");
        Told x = loaded();
        for (int n = 1; n <= 60; n++) {
            due(x.order(0, LAND, 1), 1);
            x.go(1);
            due(x.count(4), n);
            due(x.landing(n - 1, 4), 1);
            due(x.landing(n - 1, 3), n);
            due(x.landing(n, 4), NONE);
        }
        says("(Without room for it the ORDER is done all the same.)");
        due(x.store(0), 5000 - 980 + 60);
        x.order(0, LAND, 7);
        x.order(0, LAND, 11);
        x.go(1);
        due(x.of(0, ORDERS), 1);
        due(x.of(0, TONS), 11);
        due(x.book(0, 3), 67);
        due(x.store(0), 5000 - 980 + 67);
        due(x.count(4), 60);
        x.go(1);
        due(x.of(0, ORDERS), 0);
        due(x.book(0, 3), 78);
        due(x.of(0, GAS), 980 - 78);
        due(x.count(4), 60);
        due(x.landing(60, 4), NONE);
        due(x.landing(59, 4), 1);
        due(x.led(59, 0), 1);
        due(x.led(60, 0), NONE);
        says("there is no such LANDING: the sixty-first");
        accepted(x, 0, o -> o.bill(59, 3));
        refused(x, -2, o -> o.bill(60, 3));
        accepted(x, 1, o -> o.reading(59, 0, 1, 1, 1));
        refused(x, -2, o -> o.reading(60, 0, 1, 1, 1));
    }

    private static void roomForPrices() {
        says("PRICES, 60 at most");
        Told x = landings(1);
        contract(x, "pay price");
        for (int n = 1; n <= 60; n++) {
            due(x.price(0, n, n), n);
            due(x.status(), 0);
        }
        refused(x, -5, o -> o.price(0, 0, 0));
        refused(x, -5, o -> o.price(99, 10_000, 2399));
        says("The first of these in that order: price");
        refused(x, -1, o -> o.price(100, 0, 0));
        refused(x, -1, o -> o.price(0, 10_001, 0));
        refused(x, -1, o -> o.price(0, 0, 2400));
        due(x.due(0, 0, 0, 4), 0);
        due(x.due(0, 0, 1, 4), 1);
        due(x.due(0, 0, 59, 4), 59);
        due(x.due(0, 0, 60, 4), 60);
        due(x.due(0, 0, 61, 4), 60);
    }

    private static void roomForForce() {
        says("FORCE, 20 at most");
        Told x = loaded();
        x.go(40);
        x.order(0, LAND, 5);
        x.go(1);
        due(x.landing(0, 3), 41);
        contract(x, "window 0 to 0; fine late");
        for (int n = 1; n <= 20; n++) {
            due(x.force(2 * n, 2 * n, n), n);
            due(x.status(), 0);
        }
        refused(x, -5, o -> o.force(0, 0, 0));
        refused(x, -5, o -> o.force(0, 2399, 2399));
        says("The first of these in that order: force");
        refused(x, -1, o -> o.force(1, 0, 0));
        refused(x, -1, o -> o.force(0, 0, 2400));
        due(x.due(0, 0, 0, 3), 41);
        due(x.due(0, 0, 19, 3), 41 - 19);
        due(x.due(0, 0, 20, 3), 41 - 20);
        due(x.due(0, 0, 2399, 3), 41 - 20);
    }

    private static void roomForReadings() {
        says("A READING, 60 at most");
        Told x = landings(2);
        for (int k = 0; k < 4; k++) {
            x.table(0, k, 100 * k, 1000 * k);
        }
        for (int n = 1; n <= 60; n++) {
            due(x.reading(n % 2, n % 3 == 0 ? 1 : 0, n, 0, n), n);
            due(x.status(), 0);
            due(x.count(7), n);
        }
        refused(x, -5, o -> o.reading(0, 0, 0, 0, 0));
        refused(x, -5, o -> o.reading(1, 1, 5000, 20, 2399));
        says("The first of these in that order: reading");
        refused(x, -2, o -> o.reading(2, 0, 0, 0, 0));
        refused(x, -1, o -> o.reading(2, 2, 0, 0, 0));
        refused(x, -1, o -> o.reading(0, 0, 0, 0, 2400));
        due(x.gauged(0, 60, 1), 600);
        due(x.gauged(0, 59, 1), 540);
    }

    private static void roomForCargoes() {
        says("CARGOES, 6 at most");
        Told x = twoPorts();
        x.way(0, 1, 3, false);
        for (int n = 1; n <= 6; n++) {
            due(x.cargo(0, 1, 0, 900, 0, 900, 10 * n, 100), n);
            due(x.status(), 0);
            due(x.count(6), n);
            due(x.judge(0, n - 1, NONE, NONE, 0), 1000 * n - 300);
            due(x.judge(0, n, NONE, NONE, 0), NOTHING);
        }
        refused(x, -5, o -> o.cargo(0, 1, 0, 0, 0, 0, 1, 0));
        says("The first of these in that order: cargo");
        refused(x, -3, o -> o.cargo(1, 1, 0, 0, 0, 0, 1, 0));
        refused(x, -2, o -> o.cargo(2, 2, 0, 0, 0, 0, 1, 0));
        refused(x, -2, o -> o.cargo(0, 2, 0, 0, 0, 0, 1, 0));
        refused(x, -1, o -> o.cargo(2, 2, 1, 0, 0, 0, 1, 0));
        refused(x, -1, o -> o.cargo(1, 1, 0, 0, 0, 0, 0, 0));
        due(x.count(6), 6);
        says("CARGOES are none: how many there were");
        due(x.clear(), 6);
        due(x.count(6), 0);
        due(x.clear(), 0);
        due(x.judge(0, 0, NONE, NONE, 0), NOTHING);
        for (int n = 1; n <= 6; n++) {
            due(x.cargo(1, 0, 0, 900, 0, 900, 10, 100), n);
        }
        due(x.cargo(1, 0, 0, 900, 0, 900, 10, 100), -5);
    }

    private static void roomOnTheTape() {
        says("on a TAPE of at most 400 bytes; NONE, if there would be more than 400");
        Told x = midst();
        x.end(0);
        for (int n = 1; n <= 20; n++) {
            due(x.count(8), 20 * n - 20);
            due(x.feed(1, 2, 3, 4, 5), 20 * n);
        }
        due(x.count(8), 400);
        leaves(x, NONE, o -> o.feed(1, 2, 3, 4, 5));
        due(x.end(399), 399);
        leaves(x, NONE, o -> o.feed(1, 2, 3, 4, 5));
        due(x.end(381), 381);
        leaves(x, NONE, o -> o.feed(1, 2, 3, 4, 5));
        due(x.end(380), 380);
        due(x.feed(1, 2, 3, 4, 5), 400);
        due(x.end(400), 400);
        due(x.end(401), NONE);
        due(x.end(0), 0);
        due(x.feed(1, 2, 3, 4, 5), 20);
    }

    private static void roomForContracts() {
        says("CONTRACTS are TEXTS, 12 at most; -5 (ahead of reading it)");
        Told x = landings(1);
        for (int n = 0; n < 12; n++) {
            due(x.count(5), n);
            due(x.due(0, n, 0, 0), NOTHING);
            due(contract(x, "pay " + (100 + n)), n);
            due(x.status(), 0);
            due(x.due(0, n, 0, 0), 100 + n);
        }
        due(contract(x.copy(), "pay 1"), -5);
        feed(x, "pay 7");
        refused(x, -5, o -> o.contract(), false);
        feed(x, "pay");
        refused(x, -5, o -> o.contract(), false);
        feed(x, "");
        refused(x, -5, o -> o.contract());
        due(x.count(5), 12);
        due(x.due(0, 11, 0, 0), 111);
        due(x.due(0, 12, 0, 0), NOTHING);
        says("there is no such CONTRACT");
        refused(x, -2, o -> o.settle(0, 12));
        accepted(x, 0, o -> o.settle(0, 11));
    }

    // ---------------------------------------------------------------- which of several reasons

    private static void firstReason() {
        Told x = midst();
        says("The first of these in that order: ship");
        refused(x, -1, o -> o.ship(3, 999, 1));
        refused(x, -1, o -> o.ship(-1, 1000, 0));
        says("The first of these in that order: way");
        refused(x, -1, o -> o.way(3, 3, 0, false));
        refused(x, -1, o -> o.way(1, 1, 401, false));
        refused(x, -2, o -> o.way(3, 3, 5, false));
        refused(x, -3, o -> o.way(1, 1, 5, false));
        says("-3 one and itself");
        for (int t = 0; t < 3; t++) {
            int one = t;
            refused(x, -3, o -> o.way(one, one, 1, false));
            refused(x, -3, o -> o.way(one, one, 400, true));
            refused(x, -3, o -> o.cargo(one, one, 0, 0, 0, 0, 1, 0));
        }
        says("The first of these in that order: slot");
        refused(x, -1, o -> o.slot(0, 0, 5, 4));
        refused(x, -2, o -> o.slot(0, 3, 5, 5));
        refused(x, -2, o -> o.slot(3, 0, 5, 5));
        refused(x, -3, o -> o.slot(0, 0, 5, 5));
        says("The first of these in that order: heat, list, table");
        refused(x, -1, o -> o.heat(3, 499));
        refused(x, -1, o -> o.heat(-1, 2001));
        refused(x, -1, o -> o.list(3, 51));
        refused(x, -1, o -> o.table(3, 4, 0, 0));
        refused(x, -1, o -> o.table(3, 0, 0, 200_001));
        says("The first of these in that order: bill");
        refused(x, -1, o -> o.bill(2, -1));
        refused(x, -1, o -> o.bill(0, 200_001));
        refused(x, -4, o -> o.bill(0, 200_000));
        says("The first of these in that order: settle");
        refused(x, -2, o -> o.settle(0, 2));
        refused(x, -2, o -> o.settle(0, -1));
        refused(x, -2, o -> o.settle(2, 2));
        refused(x, -4, o -> o.settle(0, 1));
        refused(x, -4, o -> o.settle(0, 0));
        says("The first of these in that order: reading");
        refused(x, -1, o -> o.reading(2, 0, 5001, 0, 0));
        says("The first of these in that order: broken");
        refused(x, -1, o -> o.broken(3, 2400, 2400));
        says("The first of these in that order: cargo");
        refused(x, -1, o -> o.cargo(3, 3, 0, 0, 0, 0, 1, 1001));
        says("The first of these in that order: back");
        refused(new Told(), -1, o -> o.back(2));
        refused(new Told(), -1, o -> o.back(-1));
        refused(new Told(), -2, o -> o.back(0));
    }

    private static void twice() {
        says("BILLS: of a LANDING so many tons were told (once); -4 twice");
        Told x = landings(2);
        due(x.bill(0, 0), 0);
        refused(x, -4, o -> o.bill(0, 0));
        refused(x, -4, o -> o.bill(0, 5));
        due(x.bill(1, 200_000), 0);
        refused(x, -4, o -> o.bill(1, 200_000));
        says("SETTLED is a LANDING once; -4 twice");
        contract(x, "pay 5");
        contract(x, "pay 6");
        due(x.settle(1, 1), 0);
        refused(x, -4, o -> o.settle(1, 1));
        refused(x, -4, o -> o.settle(1, 0));
        due(x.settled(1, 0), 6);
        due(x.settled(0, 0), NOTHING);
        due(x.settle(0, 1), 0);
        due(x.settled(0, 0), 6);
    }

    // ---------------------------------------------------------------- status

    private static void statusAheadOfAny() {
        says("0 if it was not, or ahead of any");
        Told x = new Told();
        due(x.status(), 0);
        askAll(x);
        due(x.status(), 0);
    }

    /** All calls that status() doesn't tell of, with numbers that can't be and with some that can. */
    private static void askAll(Told x) {
        for (int n : new int[] {0, -1, 99, MIN, MAX}) {
            x.of(n, n);
            x.part(n, n);
            x.book(n, n);
            x.store(n);
            x.landing(n, n);
            x.led(n, n);
            x.fault();
            x.due(n, n, n, n);
            x.settled(n, n);
            x.gauged(n, n, n);
            x.voyage(n, n);
            x.judge(n, n, n, n, n);
            x.count(n);
            x.status();
            x.best(n);
            x.feed(n, n, n, n, n);
            x.end(n);
        }
        x.clear();
    }

    private static void statusStays() {
        says("What the latest call of terminal .. back was REFUSED by");
        Told.Call[] calls = {
            o -> o.terminal(-1, 0, 0, 0), o -> o.ship(9, 1000, 1), o -> o.way(0, 0, 5, true), o -> o.tide(-1, 0),
            o -> o.sea(-1, 0), o -> o.slot(0, 0, 5, 5), o -> o.broken(9, 5, 5), o -> o.terms(-1, 0),
            o -> o.order(9, WAIT, 0), o -> o.go(0), o -> o.heat(9, 700), o -> o.price(-1, 0, 0), o -> o.force(-1, 0, 0),
            o -> o.bill(0, 5), o -> o.contract(), o -> o.settle(0, 1), o -> o.table(9, 0, 0, 0), o -> o.list(9, 0),
            o -> o.reading(9, 0, 0, 0, 0), o -> o.cargo(0, 0, 0, 0, 0, 0, 1, 1), o -> o.image(2), o -> o.back(1)};
        int[] why = {-1, -2, -3, -1, -1, -3, -2, -1, -2, -1, -2, -1, -1, -4, -6, -4, -2, -2, -2, -3, -1, -2};
        for (int n = 0; n < calls.length; n++) {
            Told x = midst();
            due(x.status(), 0);
            due(x.tell(calls[n]), why[n]);
            due(x.status(), why[n]);
            due(x.status(), why[n]);
            askAll(x);
            due(x.status(), why[n]);
            // Another reason takes its place, and one that is not refused takes it away.
            due(x.go(why[n] == -1 ? 1 : 0), why[n] == -1 ? 20 : -1);
            due(x.status(), why[n] == -1 ? 0 : -1);
        }
    }

    private static void statusIsTakenAway() {
        says("0 if it was not");
        Told.Call[] calls = {
            o -> o.terminal(0, 0, 1, 0), o -> o.ship(0, 1000, 1), o -> o.way(0, 1, 5, true), o -> o.tide(0, 0),
            o -> o.sea(0, 0), o -> o.slot(2, 0, 5, 5), o -> o.broken(0, 5, 5), o -> o.terms(0, 1),
            o -> o.order(0, WAIT, 0), o -> o.go(1), o -> o.heat(0, 700), o -> o.price(0, 0, 0), o -> o.force(0, 0, 0),
            o -> o.bill(1, 5), o -> o.settle(1, 1), o -> o.table(0, 0, 0, 0), o -> o.list(0, 0),
            o -> o.reading(0, 0, 0, 0, 0), o -> o.cargo(0, 1, 0, 0, 0, 0, 1, 1), o -> o.image(1), o -> o.back(0)};
        for (Told.Call call : calls) {
            Told x = midst();
            due(x.back(1), -2);
            due(x.status(), -2);
            due(x.tell(call) < 0 ? 1 : 0, 0);
            due(x.status(), 0);
        }
        Told x = midst();
        due(x.back(1), -2);
        due(contract(x, "pay 1"), 2);
        due(x.status(), 0);
        // A LIST of -2 was told: the answer is -2, but the call is not refused.
        says("LIST: what it was. -1; -2 (in status())");
        x.list(0, -2);
        due(x.back(1), -2);
        due(x.list(0, -1), -2);
        due(x.status(), 0);
        due(x.list(0, 51), -1);
        due(x.status(), -1);
        due(x.list(0, 5), -1);
        due(x.status(), 0);
        due(x.list(9, 5), -2);
        due(x.status(), -2);
    }

    private static void counts() {
        says("0 NOW, 1 TERMINALS, 2 SHIPS, 3 SLOTS, 4 LANDINGS, 5 CONTRACTS, 6 CARGOES, 7 READINGS, 8 bytes of the TAPE");
        Told.Call[] calls = {o -> o.go(1), o -> o.terminal(0, 0, 1, 0), o -> o.ship(0, 1000, 1), o -> o.slot(2, 0, 5, 5),
            null, null, o -> o.cargo(0, 1, 0, 0, 0, 0, 1, 0), o -> o.reading(0, 0, 0, 0, 0), o -> o.feed(0, 0, 0, 0, 0)};
        int[] first = {19, 3, 3, 3, 2, 2, 2, 2, 19};
        int[] more = {1, 1, 1, 1, 0, 0, 1, 1, 20};
        for (int n = 0; n < calls.length; n++) {
            Told x = midst();
            if (calls[n] != null) {
                x.tell(calls[n]);
            }
            for (int what = 0; what <= 8; what++) {
                due(x.count(what), first[what] + (what == n ? more[n] : 0));
            }
            due(x.count(9), NONE);
            due(x.count(-1), NONE);
        }
        Told x = midst();
        // A LANDING is there once its ORDER is done: 267 tons are 67 above the HEEL, which are landed in the next HOUR.
        x.go(1);
        due(x.count(4), 2);
        x.go(1);
        due(x.count(4), 3);
        due(contract(x, "pay 1"), 2);
        due(x.count(5), 3);
        due(x.count(8), 0);
        due(contract(x, "pay"), -6);
        due(x.count(5), 3);
        due(x.count(8), 0);
    }

    // ---------------------------------------------------------------- the calls of an object

    private static void fiveHundredAndTwelve() {
        says("An object is used for at most 512 calls after it has been made");
        ColdShips x = new ColdShips();
        int calls = 0;
        due(x.terminal(9000, 9000, 4000, 30), 0);
        due(x.ship(0, 1000, 1), 0);
        due(x.slot(0, 0, 0, 2399), 1);
        due(x.terms(0, 1000), 0);
        calls += 4;
        for (int n = 0; n < 400; n++) {
            due(x.order(0, n % 2 == 0 ? LOAD : LAND, n == 0 ? 100 : 1), n % 20 + 1);
            calls++;
            if (n % 20 == 19) {
                due(x.go(20), n + 1);
                calls++;
            }
        }
        due(calls, 424);
        // 60 LANDINGS were kept of 200.
        for (int n = 0; n < 60; n++) {
            due(x.landing(n, 3), 2 * n + 1);
            calls++;
        }
        due(x.order(0, WAIT, 0), -5);
        due(x.status(), -5);
        due(x.count(4), 60);
        due(x.book(0, 0), 100 + 199);
        due(x.book(0, 3), 200);
        due(x.of(0, GAS), 99);
        due(x.store(0), 9000 - 99);
        due(x.image(0), 0);
        due(x.go(480), 880);
        due(x.go(480), 1360);
        due(x.go(480), 1840);
        due(x.go(480), 2320);
        due(x.go(80), -1);
        due(x.go(79), 2399);
        due(x.back(0), 0);
        calls += 14;
        while (calls < 510) {
            due(x.image(1), 0);
            calls++;
        }
        due(x.back(1), 0);
        due(x.count(0), 400);
        due(calls + 2, 512);
    }

    /** The dearest calls, 512 times over. */
    private static void dearestCalls() {
        says("An object is used for at most 512 calls after it has been made");
        ColdShips x = new ColdShips();
        for (int t = 0; t < 3; t++) {
            x.terminal(0, 100, 100, 10);
        }
        for (int s = 0; s < 3; s++) {
            x.ship(s, 1000, 1);
        }
        x.way(0, 1, 2, false);
        x.way(1, 2, 2, false);
        x.way(0, 2, 2, false);
        x.terms(0, 700);
        for (int c = 0; c < 6; c++) {
            x.cargo(c % 3, (c + 1) % 3, 0, 900, 0, 900, 300, 10);
        }
        long worth = x.best(0);
        due(worth, 6 * (3000 - 200));
        for (int calls = 17; calls < 512; calls++) {
            due(x.best(calls % 800), worth);
        }
    }

    /** All texts of an object: each is read though those ahead were. */
    private static void textAfterText() {
        says("An object is used for at most 512 calls after it has been made");
        ColdShips x = new ColdShips();
        x.image(0);
        int calls = 1;
        for (int n = 0; calls + 3 <= 512; n++) {
            due(x.feed(0x70617920, 0x312b315d, 0x20202020, 0x20202020, 0x20202020), 20);
            due(x.end(n % 2 == 0 ? 7 : 8), n % 2 == 0 ? 7 : 8);
            calls += 2;
            int had = n / 2 % 12 + (n % 2 == 0 ? 0 : 1);
            due(x.contract(), had >= 12 ? -5 : n % 2 == 0 ? had : -6);
            calls++;
            if (n % 24 == 23 && calls < 512) {
                due(x.back(0), 0);
                calls++;
            }
        }
    }

    public static void main(String[] args) {
        roomForTerminals();
        roomForShips();
        roomForSlots();
        roomForArms();
        roomInARow();
        roomForOrdersInAll();
        roomForOrdersIsGoneBackTo();
        roomForLandings();
        roomForPrices();
        roomForForce();
        roomForReadings();
        roomForCargoes();
        roomOnTheTape();
        roomForContracts();
        firstReason();
        twice();
        statusAheadOfAny();
        statusStays();
        statusIsTakenAway();
        counts();
        fiveHundredAndTwelve();
        dearestCalls();
        textAfterText();
        finish();
    }
}
