/**
 * Of each number of each call the last that may be and the first that may not, at both ends; what a REFUSED call answers,
 * what status() says behind it, and that it changed nothing.
 */
public final class EdgesOfNumbersTest extends Edges {
    private static final Numbers TERMINAL = (x, a) -> x.terminal(a[0], a[1], a[2], a[3]);
    private static final Numbers SHIP = (x, a) -> x.ship(a[0], a[1], a[2]);
    private static final Numbers WAY = (x, a) -> x.way(a[0], a[1], a[2], a[0] == 0);
    private static final Numbers TIDE = (x, a) -> x.tide(a[0], a[1]);
    private static final Numbers SEA = (x, a) -> x.sea(a[0], a[1]);
    private static final Numbers SLOT = (x, a) -> x.slot(a[0], a[1], a[2], a[3]);
    private static final Numbers BROKEN = (x, a) -> x.broken(a[0], a[1], a[2]);
    private static final Numbers TERMS = (x, a) -> x.terms(a[0], a[1]);
    private static final Numbers ORDER = (x, a) -> x.order(a[0], a[1], a[2]);
    private static final Numbers GO = (x, a) -> x.go(a[0]);
    private static final Numbers HEAT = (x, a) -> x.heat(a[0], a[1]);
    private static final Numbers PRICE = (x, a) -> x.price(a[0], a[1], a[2]);
    private static final Numbers FORCE = (x, a) -> x.force(a[0], a[1], a[2]);
    private static final Numbers BILL = (x, a) -> x.bill(a[0], a[1]);
    private static final Numbers SETTLE = (x, a) -> x.settle(a[0], a[1]);
    private static final Numbers TABLE = (x, a) -> x.table(a[0], a[1], a[2], a[3]);
    private static final Numbers LIST = (x, a) -> x.list(a[0], a[1]);
    private static final Numbers READING = (x, a) -> x.reading(a[0], a[1], a[2], a[3], a[4]);
    private static final Numbers CARGO = (x, a) -> x.cargo(a[0], a[1], a[2], a[3], a[4], a[5], a[6], a[7]);
    private static final Numbers IMAGE = (x, a) -> x.image(a[0]);
    private static final Numbers BACK = (x, a) -> x.back(a[0]);

    private static int[] row(int... numbers) {
        return numbers;
    }

    // ---------------------------------------------------------------- terminals, ships, ways

    private static void numbersOfTerminals() {
        Told x = midst();
        says("a STORE (0 .. 500,000 tons)");
        bounds(x, -1, TERMINAL, row(0, 500_000, 5, 5), 0, 0, 500_000);
        says("its CAP (0 .. 500,000, not below the STORE)");
        bounds(x, -1, TERMINAL, row(0, 9, 5, 5), 1, 0, 500_000);
        bounds(x, -1, TERMINAL, row(777, 999, 5, 5), 1, 777, 500_000);
        bounds(x, -1, TERMINAL, row(777, 999, 5, 5), 0, 0, 999);
        says("a RATE (1 .. 10,000 tons an HOUR)");
        bounds(x, -1, TERMINAL, row(1, 2, 5, 5), 2, 1, 10_000);
        says("a DEPTH (0 .. 30)");
        bounds(x, -1, TERMINAL, row(1, 2, 5, 5), 3, 0, 30);
    }

    private static void numbersOfShips() {
        Told x = midst();
        says("there is no such TERMINAL (of ship)");
        bounds(x, -2, SHIP, row(1, 5000, 5), 0, 0, 2);
        says("a CAP (1000 .. 200,000 tons)");
        bounds(x, -1, SHIP, row(1, 5000, 5), 1, 1000, 200_000);
        says("FUEL (1 .. 50 tons an HOUR)");
        bounds(x, -1, SHIP, row(1, 5000, 5), 2, 1, 50);
    }

    /** Of the two ends of a WAY one is 1: the other may be 0 or 2. */
    private static void endsOfWays() {
        Told x = midst();
        says("there is no such TERMINAL (of way)");
        for (int good : row(0, 2)) {
            accepted(x, 0, o -> o.way(good, 1, 5, false));
            accepted(x, 0, o -> o.way(1, good, 5, true));
        }
        for (int bad : row(-1, 3, 5, 6, MIN, MAX)) {
            refused(x, -2, o -> o.way(bad, 1, 5, false));
            refused(x, -2, o -> o.way(1, bad, 5, false));
            refused(x, -2, o -> o.way(bad, bad, 5, false));
        }
        says("so many HOURS (1 .. 400; both ways; told anew: the latest)");
        bounds(x, -1, WAY, row(0, 1, 5), 2, 1, 400);
        bounds(x, -1, WAY, row(2, 1, 5), 2, 1, 400);
    }

    private static void numbersOfTidesAndSeas() {
        Told x = midst();
        says("TIDE: of HOUR h what is told of h's rest by 25");
        bounds(x, -1, TIDE, row(5, 5), 0, 0, 24);
        says("TIDE: (0 .. 9; 0 till told)");
        bounds(x, -1, TIDE, row(5, 5), 1, 0, 9);
        says("24 to a DAY (0 .. 99): of sea");
        bounds(x, -1, SEA, row(5, 5), 0, 0, 99);
        says("SEA of a DAY 0 .. 9 (0 till told)");
        bounds(x, -1, SEA, row(5, 5), 1, 0, 9);
    }

    private static void numbersOfSlotsAndArms() {
        Told x = midst();
        says("there is no such TERMINAL, SHIP (of slot)");
        bounds(x, -2, SLOT, row(1, 1, 100, 200), 0, 0, 2);
        bounds(x, -2, SLOT, row(1, 1, 100, 200), 1, 0, 2);
        says("HOURS 0 .. 2399: of slot");
        bounds(x, -1, SLOT, row(2, 1, 100, 200), 2, 0, 200);
        bounds(x, -1, SLOT, row(2, 1, 100, 200), 3, 100, 2399);
        bounds(x, -1, SLOT, row(2, 1, 2399, 2399), 2, 0, 2399);
        bounds(x, -1, SLOT, row(2, 1, 0, 0), 3, 0, 2399);
        says("there is no such TERMINAL (of broken)");
        bounds(x, -2, BROKEN, row(1, 100, 200), 0, 0, 2);
        says("HOURS 0 .. 2399: of broken");
        bounds(x, -1, BROKEN, row(1, 100, 200), 1, 0, 200);
        bounds(x, -1, BROKEN, row(1, 100, 200), 2, 100, 2399);
        bounds(x, -1, BROKEN, row(1, 2399, 2399), 1, 0, 2399);
        bounds(x, -1, BROKEN, row(1, 0, 0), 2, 0, 2399);
    }

    private static void numbersOfTermsAndOrders() {
        Told x = midst();
        says("BOILS (0 .. 100; 10 at first)");
        bounds(x, -1, TERMS, row(5, 5), 0, 0, 100);
        says("LIMIT of pressure (1 .. 1000; 700 at first)");
        bounds(x, -1, TERMS, row(5, 5), 1, 1, 1000);
        says("there is no such SHIP (of order)");
        bounds(x, -2, ORDER, row(1, WAIT, 5), 0, 0, 2);
        says("An ORDER (0 SAIL, 1 LOAD, 2 LAND, 3 WAIT)");
        bounds(x, -1, ORDER, row(1, WAIT, 1), 1, 0, 3);
        says("0 SAIL to a TERMINAL");
        bounds(x, -2, ORDER, row(1, SAIL, 1), 2, 0, 2);
        says("1 LOAD n tons (1 .. 200,000)");
        bounds(x, -1, ORDER, row(1, LOAD, 5), 2, 1, 200_000);
        says("2 LAND n tons");
        bounds(x, -1, ORDER, row(1, LAND, 5), 2, 1, 200_000);
        says("3 WAIT up to an HOUR");
        bounds(x, -1, ORDER, row(1, WAIT, 5), 2, 0, 2399);
    }

    private static void numbersOfGo() {
        Told x = midst();
        says("HOURS go by (1 .. 480): NOW. -1");
        bounds(x, -1, GO, row(5), 0, 1, 480);
        accepted(x, 19 + 480, o -> o.go(480));
        accepted(x, 19 + 1, o -> o.go(1));
        says("-1, also if it would be above 2399");
        for (int n = 0; n < 4; n++) {
            x.go(480);
        }
        bounds(x, -1, GO, row(5), 0, 1, 2399 - 1939);
        x.go(459);
        due(x.count(0), 2398);
        bounds(x, -1, GO, row(5), 0, 1, 1);
        x.go(1);
        due(x.count(0), 2399);
        for (int hours : row(1, 2, 480, 481, 0, -1, -2399, MIN, MAX)) {
            refused(x, -1, o -> o.go(hours));
        }
    }

    // ---------------------------------------------------------------- prices, contracts, gauges

    private static void numbersOfHeatsPricesForces() {
        Told x = midst();
        says("-2 (in status()): of heat");
        bounds(x, -2, HEAT, row(1, 700), 0, 0, 2);
        says("HEAT of a TERMINAL's gas (500 .. 2000; 1000 at first)");
        bounds(x, -1, HEAT, row(1, 700), 1, 500, 2000);
        says("24 to a DAY (0 .. 99): of price");
        bounds(x, -1, PRICE, row(5, 5, 5), 0, 0, 99);
        says("PRICES: of a DAY on (0 .. 10,000)");
        bounds(x, -1, PRICE, row(5, 5, 5), 1, 0, 10_000);
        says("known from an HOUR on (of price)");
        bounds(x, -1, PRICE, row(5, 5, 5), 2, 0, 2399);
        says("FORCE: from an HOUR to an HOUR");
        bounds(x, -1, FORCE, row(100, 200, 5), 0, 0, 200);
        bounds(x, -1, FORCE, row(100, 200, 5), 1, 100, 2399);
        bounds(x, -1, FORCE, row(2399, 2399, 5), 0, 0, 2399);
        bounds(x, -1, FORCE, row(0, 0, 5), 1, 0, 2399);
        says("known from an HOUR on (of force)");
        bounds(x, -1, FORCE, row(100, 200, 5), 2, 0, 2399);
    }

    private static void numbersOfBills() {
        Told x = midst();
        says("A BILL (0 .. 200,000 tons)");
        bounds(x, -1, BILL, row(1, 5), 1, 0, 200_000);
    }

    /** LANDING 0 is SETTLED and has its BILL: LANDING 1 is the last one. */
    private static void landingsThatThereAre() {
        Told x = midst();
        says("there is no such LANDING (of bill)");
        for (int bad : row(-1, 2, 59, 60, MIN, MAX)) {
            refused(x, -2, o -> o.bill(bad, 5));
        }
        accepted(x, 0, o -> o.bill(1, 5));
        says("there is no such LANDING, CONTRACT (of settle)");
        for (int bad : row(-1, 2, 59, 60, MIN, MAX)) {
            refused(x, -2, o -> o.settle(bad, 0));
        }
        bounds(x, -2, SETTLE, row(1, 0), 1, 0, 1);
    }

    private static void numbersOfGauges() {
        Told x = midst();
        says("there is no such SHIP (of table)");
        bounds(x, -2, TABLE, row(1, 1, 5, 5), 0, 0, 2);
        says("row k (0 .. 3)");
        bounds(x, -1, TABLE, row(1, 1, 5, 5), 1, 0, 3);
        says("from so many centimetres on (0 .. 5000");
        bounds(x, -1, TABLE, row(1, 1, 5, 5), 2, 0, 5000);
        says("so many tons (0 .. 200,000, not below)");
        bounds(x, -1, TABLE, row(1, 1, 5, 5), 3, 0, 200_000);
        says("-2 (in status()): of list");
        bounds(x, -2, LIST, row(1, 5), 0, 0, 2);
        says("the SHIP's LIST (-50 .. 50; 0 at first)");
        bounds(x, -1, LIST, row(1, 5), 1, -50, 50);
        says("there is no such LANDING (of reading)");
        bounds(x, -2, READING, row(1, 1, 5, 5, 5), 0, 0, 1);
        says("which 0 ahead, 1 behind");
        bounds(x, -1, READING, row(1, 1, 5, 5, 5), 1, 0, 1);
        says("0 .. 5000 centimetres");
        bounds(x, -1, READING, row(1, 1, 5, 5, 5), 2, 0, 5000);
        says("a TRIM (-20 .. 20)");
        bounds(x, -1, READING, row(1, 1, 5, 5, 5), 3, -20, 20);
        says("known from an HOUR on (of reading)");
        bounds(x, -1, READING, row(1, 1, 5, 5, 5), 4, 0, 2399);
    }

    // ---------------------------------------------------------------- cargoes, images

    private static void numbersOfCargoes() {
        Told x = midst();
        int[] good = row(0, 1, 100, 200, 300, 400, 10, 10);
        says("LOADED from an HOUR a to b; -1 a above b, too");
        bounds(x, -1, CARGO, good, 2, 0, 200);
        bounds(x, -1, CARGO, good, 3, 100, 2399);
        bounds(x, -1, CARGO, row(0, 1, 2399, 2399, 0, 0, 1, 0), 2, 0, 2399);
        bounds(x, -1, CARGO, row(0, 1, 0, 0, 0, 0, 1, 0), 3, 0, 2399);
        says("from c to d; -1 c above d, too");
        bounds(x, -1, CARGO, good, 4, 0, 400);
        bounds(x, -1, CARGO, good, 5, 300, 2399);
        bounds(x, -1, CARGO, row(0, 1, 0, 0, 2399, 2399, 1, 0), 4, 0, 2399);
        bounds(x, -1, CARGO, row(0, 1, 0, 0, 0, 0, 1, 0), 5, 0, 2399);
        says("tons (1 .. 200,000): of a CARGO");
        bounds(x, -1, CARGO, good, 6, 1, 200_000);
        says("a price (0 .. 1000)");
        bounds(x, -1, CARGO, good, 7, 0, 1000);
        says("there is no such TERMINAL (of cargo)");
        for (int there : row(0, 2)) {
            accepted(x, 3, o -> o.cargo(there, 1, 1, 2, 3, 4, 5, 6));
            accepted(x, 3, o -> o.cargo(1, there, 1, 2, 3, 4, 5, 6));
        }
        for (int bad : row(-1, 3, 5, 6, MIN, MAX)) {
            refused(x, -2, o -> o.cargo(bad, 1, 1, 2, 3, 4, 5, 6));
            refused(x, -2, o -> o.cargo(1, bad, 1, 2, 3, 4, 5, 6));
            refused(x, -2, o -> o.cargo(bad, bad, 1, 2, 3, 4, 5, 6));
        }
    }

    private static void numbersOfImages() {
        Told x = midst();
        x.image(1);
        says("IMAGES 0, 1");
        bounds(x, -1, IMAGE, row(0), 0, 0, 1);
        bounds(x, -1, BACK, row(0), 0, 0, 1);
        says("-2 it was not kept");
        Told y = midst();
        accepted(y, 0, o -> o.back(0));
        refused(y, -2, o -> o.back(1));
        Told empty = new Told();
        refused(empty, -2, o -> o.back(0));
        refused(empty, -2, o -> o.back(1));
        empty.image(1);
        refused(empty, -2, o -> o.back(0));
        accepted(empty, 0, o -> o.back(1));
    }

    // ---------------------------------------------------------------- calls that status() doesn't tell of

    private static void numbersOfTapes() {
        Told x = midst();
        says("The TAPE has its first n bytes alone: n. NONE, if it has not so many, or n is below 0");
        for (int n : row(20, 21, 400, -1, MIN, MAX)) {
            leaves(x, NONE, o -> o.end(n));
        }
        due(x.copy().end(0), 0);
        due(x.copy().end(19), 19);
        leaves(x, 19, o -> o.end(19));
        Told none = new Told();
        due(none.end(0), 0);
        due(none.end(1), NONE);
        due(none.end(-1), NONE);
        says("NONE for an HOUR that can't be");
        for (int from : row(-1, 2400, MIN, MAX)) {
            leaves(x, NONE, o -> o.best(from));
        }
        due(x.copy().best(0) > 0 ? 1 : 0, 1);
        due(x.copy().best(2399), 0);
    }

    /** Each number of a question at its ends: there is an answer, and just beyond there is none. */
    private static void questions() {
        Told x = midst();
        says("Of a SHIP what 0 .. 9. NONE");
        asks(x, NONE, (o, a) -> o.of(a[0], a[1]), row(2, 9), row(0, 0), row(2, 9));
        says("PART of a SHIP's GAS from a TERMINAL; NONE");
        asks(x, NONE, (o, a) -> o.part(a[0], a[1]), row(2, 2), row(0, 0), row(2, 2));
        says("BOOK: what 0 LOADED, 1 BURNT, 2 VENTED, 3 LANDED. NONE");
        asks(x, NONE, (o, a) -> o.book(a[0], a[1]), row(0, 3), row(0, 0), row(2, 3));
        says("STORE of a TERMINAL; NONE");
        asks(x, NONE, (o, a) -> o.store(a[0]), row(0), row(0), row(2));
        says("Of a LANDING what 0 .. 6. NONE");
        asks(x, NONE, (o, a) -> o.landing(a[0], a[1]), row(1, 6), row(0, 0), row(1, 6));
        says("PART of a LANDING from a TERMINAL; NONE");
        asks(x, NONE, (o, a) -> o.led(a[0], a[1]), row(1, 0), row(0, 0), row(1, 2));
        says("DUE what 0 .. 4. NOTHING (-2,000,000,000,000,000) without");
        asks(x, NOTHING, (o, a) -> o.due(a[0], a[1], a[2], a[3]), row(1, 1, 5, 4), row(0, 0, 0, 0), row(1, 1, 2399, 4));
        says("What was SETTLED 0 .. 2. NOTHING (-2,000,000,000,000,000) without");
        asks(x, NOTHING, (o, a) -> o.settled(a[0], a[1]), row(0, 0), row(0, 0), row(0, 2));
        says("GAUGED as known: what 0 .. 3. NOTHING (-2,000,000,000,000,000) without");
        asks(x, NOTHING, (o, a) -> o.gauged(a[0], a[1], a[2]), row(0, 9, 2), row(0, 9, 0), row(0, 2399, 3));
        says("Of a CARGO in the latest BEST what 0 .. 4. NOTHING (-2,000,000,000,000,000) without");
        asks(x, NOTHING, (o, a) -> o.voyage(a[0], a[1]), row(0, 0), row(0, 0), row(1, 4));
        says("WORTH of one SHIP's row of CARGOES; NOTHING (-2,000,000,000,000,000), if it can't be");
        asks(x, NOTHING, (o, a) -> o.judge(a[0], a[1], NONE, NONE, a[2]), row(0, 0, 0), row(0, NONE, 0), row(2, 1, 80));
        asks(x, NOTHING, (o, a) -> o.judge(a[0], NONE, 7, 7, a[1]), row(0, 0), row(0, 0), row(2, 2399));
        says("0 NOW .. 8 bytes of the TAPE. NONE for others");
        asks(x, NONE, (o, a) -> o.count(a[0]), row(0), row(0), row(8));
    }

    /** A known HOUR may be 0 .. 2399; the READINGS of the midst are known from 5 and 9 on. */
    private static void askedOfGauges() {
        Told x = midst();
        says("As known: NOTHING without (no READING)");
        due(x.gauged(0, 4, 0), NOTHING);
        due(x.gauged(0, 5, 0) != NOTHING ? 1 : 0, 1);
        due(x.gauged(0, 8, 1), NOTHING);
        due(x.gauged(0, 8, 2), NOTHING);
        due(x.gauged(0, 8, 3), NOTHING);
        due(x.gauged(0, 0, 0), NOTHING);
        due(x.gauged(0, -1, 0), NOTHING);
        due(x.gauged(0, 2400, 0), NOTHING);
        due(x.gauged(1, 2399, 0), NOTHING);
    }

    /** What calls answer that have nothing to count. */
    private static void answersOfNought() {
        Told x = midst();
        says("way, tide, sea, terms, bill, settle, table, image, back: 0");
        accepted(x, 0, o -> o.way(0, 1, 1, false));
        accepted(x, 0, o -> o.way(2, 0, 400, true));
        accepted(x, 0, o -> o.tide(0, 9));
        accepted(x, 0, o -> o.tide(24, 0));
        accepted(x, 0, o -> o.sea(0, 9));
        accepted(x, 0, o -> o.sea(99, 0));
        accepted(x, 0, o -> o.terms(0, 1));
        accepted(x, 0, o -> o.terms(100, 1000));
        accepted(x, 0, o -> o.bill(1, 200_000));
        accepted(x, 0, o -> o.settle(1, 1));
        accepted(x, 0, o -> o.table(2, 3, 5000, 200_000));
        accepted(x, 0, o -> o.table(0, 0, 0, 0));
        accepted(x, 0, o -> o.image(0));
        accepted(x, 0, o -> o.image(1));
        accepted(x, 0, o -> o.back(0));
        says("how many there are; what it was; how many its SHIP has");
        accepted(x, 4, o -> o.slot(2, 0, 0, 0));
        accepted(x, 3, o -> o.broken(2, 0, 0));
        accepted(x, 4, o -> o.price(99, 10_000, 2399));
        accepted(x, 3, o -> o.force(0, 0, 0));
        accepted(x, 3, o -> o.reading(1, 1, 5000, -20, 2399));
        accepted(x, 3, o -> o.cargo(2, 0, 0, 0, 0, 0, 1, 0));
        accepted(x, 1100, o -> o.heat(0, 2000));
        accepted(x, 3, o -> o.list(0, -50));
        accepted(x, 3, o -> o.order(0, LAND, 200_000));
        accepted(x, 2, o -> o.order(1, LOAD, 1));
        says("A TERMINAL: its number; A SHIP: its number; NOW");
        accepted(x, 3, o -> o.terminal(0, 0, 1, 0));
        accepted(x, 3, o -> o.ship(2, 200_000, 50));
        accepted(x, 20, o -> o.go(1));
        says("CARGOES are none: how many there were; The TAPE has its first n bytes alone: n");
        due(x.copy().clear(), 2);
        due(x.copy().end(18), 18);
        due(x.copy().feed(0, 0, 0, 0, 0), 39);
    }

    private static void asks(Told x, long none, Numbers call, int[] good, int[] least, int[] most) {
        for (int place = 0; place < good.length; place++) {
            int[] a = good.clone();
            for (int number : row(least[place], most[place])) {
                a[place] = number;
                int[] asked = a.clone();
                due(x.ask(o -> call.on(o, asked)) == none ? 1 : 0, 0);
            }
            for (int number : row(least[place] - 1, most[place] + 1, MIN, MAX)) {
                a[place] = number;
                int[] asked = a.clone();
                due(x.ask(o -> call.on(o, asked)), none);
            }
            a[place] = good[place];
        }
        due(x.status(), 0);
    }

    public static void main(String[] args) {
        numbersOfTerminals();
        numbersOfShips();
        endsOfWays();
        numbersOfTidesAndSeas();
        numbersOfSlotsAndArms();
        numbersOfTermsAndOrders();
        numbersOfGo();
        numbersOfHeatsPricesForces();
        numbersOfBills();
        landingsThatThereAre();
        numbersOfGauges();
        numbersOfCargoes();
        numbersOfImages();
        numbersOfTapes();
        questions();
        askedOfGauges();
        answersOfNought();
        finish();
    }
}
