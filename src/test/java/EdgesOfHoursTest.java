/** What goes by in an HOUR, at the edges that the document names in I and II. */
public final class EdgesOfHoursTest extends Edges {

    /** Three terminals one HOUR apart, ship 0 at terminal 0 with slots at all of them, nothing boils. */
    private static Told port(int rate, int depth, int cap, int fuel) {
        Told x = new Told();
        for (int t = 0; t < 3; t++) {
            x.terminal(50_000, 100_000, rate, depth);
        }
        x.ship(0, cap, fuel);
        x.terms(0, 1000);
        for (int t = 0; t < 3; t++) {
            x.slot(t, 0, 0, 2399);
        }
        x.way(0, 1, 1, false);
        x.way(1, 2, 1, false);
        x.way(0, 2, 1, false);
        return x;
    }

    private static void ship(Told x, int gas, int vapor, int warm) {
        due(x.of(0, GAS), gas);
        due(x.of(0, VAPOR), vapor);
        due(x.of(0, WARM), warm);
    }

    // ---------------------------------------------------------------- I

    private static void atFirst() {
        says("HOURS 0 .. 2399; NOW is 0 at first; a new object has no TERMINALS, SHIPS");
        Told x = new Told();
        for (int what = 0; what <= 8; what++) {
            due(x.count(what), 0);
        }
        due(x.go(1), 1);
        says("SHIPS: at a TERMINAL at first, empty and warm");
        x = port(400, 30, 1000, 1);
        due(x.ship(2, 200_000, 50), 1);
        int[] first = {2, 0, 0, 0, 1800, 0, 0, 0, 8, 0};
        for (int what = 0; what <= 9; what++) {
            due(x.of(1, what), first[what]);
        }
        for (int t = 0; t < 3; t++) {
            due(x.part(1, t), 0);
        }
        for (int what = 0; what <= 3; what++) {
            due(x.book(1, what), 0);
        }
    }

    private static void heelAndTop() {
        says("Of a SHIP's CAP the HEEL is 2 hundredths, the TOP 98, cut");
        int[][] caps = {{1000, 20, 980}, {1049, 20, 1028}, {1050, 21, 1029}, {1051, 21, 1029}, {1099, 21, 1077},
            {1100, 22, 1078}, {4999, 99, 4899}};
        for (int[] c : caps) {
            Told x = port(10_000, 30, c[0], 1);
            x.order(0, LOAD, 200_000);
            x.go(4);
            due(x.of(0, GAS), c[2]);
            due(x.of(0, ORDERS), 0);
            x.order(0, LAND, 200_000);
            x.go(1);
            due(x.of(0, GAS), c[1]);
            due(x.of(0, ORDERS), 1);
            x.go(1);
            due(x.of(0, ORDERS), 0);
            due(x.landing(0, 4), c[2] - c[1]);
        }
    }

    /** While a great ship is cooled it is filled up again HOUR by HOUR; in the end it is at its TOP. */
    private static void heelAndTopOfTheGreatest() {
        says("Of a SHIP's CAP the HEEL is 2 hundredths, the TOP 98, cut");
        for (int[] c : new int[][] {{200_000, 4000, 196_000}, {199_999, 3999, 195_999}}) {
            Told x = new Told();
            x.terminal(500_000, 500_000, 10_000, 15);
            x.ship(0, c[0], 1);
            x.terms(0, 1000);
            x.slot(0, 0, 0, 2399);
            x.order(0, LOAD, 200_000);
            x.go(120);
            due(x.of(0, GAS), c[2]);
            due(x.of(0, WARM), 0);
            due(x.of(0, DRAFT), 15);
            due(x.of(0, ORDERS), 0);
            x.order(0, LAND, 200_000);
            x.go(19);
            due(x.of(0, GAS), c[2] - 190_000);
            x.go(1);
            due(x.of(0, GAS), c[1]);
            due(x.of(0, ORDERS), 1);
            x.go(1);
            due(x.of(0, ORDERS), 0);
            due(x.landing(0, 4), 192_000);
        }
    }

    /** A ship that loads a ton in each HOUR in which it may. */
    private static Told loader(int depth) {
        Told x = new Told();
        x.terminal(500, 500, 1, depth);
        x.ship(0, 1000, 1);
        x.slot(0, 0, 0, 2399);
        x.order(0, LOAD, 100);
        return x;
    }

    private static void tides() {
        says("TIDE: of HOUR h what is told of h's rest by 25");
        Told x = loader(7);
        x.tide(24, 1);
        x.go(24);
        due(x.of(0, GAS), 0);
        x.go(1);
        due(x.of(0, GAS), 1);
        x.go(24);
        due(x.of(0, GAS), 1);
        x.go(1);
        due(x.of(0, GAS), 2);
        x.tide(0, 1);
        x.go(1);
        due(x.of(0, GAS), 3);
        x.go(1);
        due(x.of(0, GAS), 3);
        due(x.count(0), 52);
        says("(0 .. 9; 0 till told)");
        int[][] deep = {{8, NONE, 1}, {7, NONE, 0}, {0, 9, 1}, {0, 8, 1}, {0, 7, 0}, {8, 0, 1}, {7, 0, 0}, {30, NONE, 1}};
        for (int[] d : deep) {
            Told y = loader(d[0]);
            if (d[1] != NONE) {
                y.tide(0, d[1]);
            }
            y.go(1);
            due(y.of(0, GAS), d[2]);
        }
        Told anew = loader(0);
        anew.tide(0, 9);
        anew.tide(0, 7);
        anew.go(1);
        due(anew.of(0, GAS), 0);
        anew.tide(1, 7);
        anew.tide(1, 8);
        anew.go(1);
        due(anew.of(0, GAS), 1);
    }

    /** 1000 tons are loaded in the HOUR ahead: with BOILS 91 and SEA 9 one ton is BOILED, with less none. */
    private static long boiledIn(int hour, int day, int sea) {
        Told x = new Told();
        x.terminal(9000, 9000, 4000, 30);
        x.ship(0, 2000, 1);
        x.terms(91, 1000);
        x.slot(0, 0, hour - 1, hour - 1);
        x.order(0, LOAD, 1000);
        x.sea(day, sea);
        for (int n = 0; n < 5; n++) {
            int ahead = hour - x.count(0);
            if (ahead > 0) {
                x.go(Math.min(480, ahead));
            }
        }
        due(x.of(0, GAS), 1000);
        due(x.of(0, VAPOR), 0);
        x.go(1);
        return x.of(0, VAPOR);
    }

    private static void seas() {
        says("HOURS, 24 to a DAY (0 .. 99); SEA of a DAY 0 .. 9 (0 till told)");
        due(boiledIn(1, 0, 9), 1);
        due(boiledIn(1, 0, 8), 0);
        due(boiledIn(1, 1, 9), 0);
        due(boiledIn(23, 0, 9), 1);
        due(boiledIn(23, 1, 9), 0);
        due(boiledIn(24, 0, 9), 0);
        due(boiledIn(24, 1, 9), 1);
        due(boiledIn(47, 1, 9), 1);
        due(boiledIn(48, 1, 9), 0);
        due(boiledIn(48, 2, 9), 1);
        due(boiledIn(2375, 98, 9), 1);
        due(boiledIn(2375, 99, 9), 0);
        due(boiledIn(2376, 99, 9), 1);
        due(boiledIn(2398, 99, 9), 1);
        due(boiledIn(2398, 98, 9), 0);
    }

    private static void slotsHaveBothEnds() {
        says("SLOTS: a TERMINAL is a SHIP's from an HOUR to an HOUR");
        Told x = new Told();
        x.terminal(500, 500, 1, 30);
        x.ship(0, 1000, 1);
        x.ship(0, 1000, 1);
        x.order(0, LOAD, 100);
        x.order(1, LOAD, 100);
        due(x.slot(0, 0, 5, 7), 1);
        due(x.slot(0, 1, 8, 8), 2);
        due(x.slot(0, 0, 9, 9), 3);
        due(x.slot(0, 1, 0, 0), 4);
        int[][] tons = {{0, 1}, {0, 1}, {0, 1}, {0, 1}, {0, 1}, {1, 1}, {2, 1}, {3, 1}, {3, 2}, {4, 2}, {4, 2}};
        for (int[] t : tons) {
            x.go(1);
            due(x.of(0, GAS), t[0]);
            due(x.of(1, GAS), t[1]);
        }
        says("HOURS 0 .. 2399: the last that goes by");
        x.slot(0, 0, 2398, 2399);
        for (int n = 0; n < 4; n++) {
            x.go(480);
        }
        x.go(2398 - 1931);
        due(x.of(0, GAS), 4);
        x.go(1);
        due(x.of(0, GAS), 5);
        due(x.count(0), 2399);
    }

    private static void slotsThatMeet() {
        says("it can't be (-3), if one of these HOURS is in another SLOT there");
        Told x = midst();
        x.slot(2, 1, 100, 200);
        x.slot(2, 0, 300, 300);
        int[][] bad = {{50, 100}, {200, 250}, {100, 200}, {120, 130}, {50, 250}, {100, 100}, {200, 200}, {0, 2399},
            {300, 300}, {299, 301}, {201, 300}, {300, 400}, {201, 2399}, {0, 100}};
        for (int[] b : bad) {
            for (int s = 0; s < 3; s++) {
                int of = s;
                refused(x, -3, o -> o.slot(2, of, b[0], b[1]));
            }
        }
        int[][] good = {{50, 99}, {99, 99}, {201, 250}, {201, 299}, {201, 201}, {299, 299}, {301, 2399}, {0, 99}};
        for (int[] g : good) {
            accepted(x, 6, o -> o.slot(2, 0, g[0], g[1]));
        }
        // Elsewhere the same HOURS are free.
        accepted(x, 6, o -> o.slot(0, 1, 100, 300));
        accepted(x, 6, o -> o.slot(1, 1, 100, 300));
    }

    private static void slotsOfTheLast() {
        says("it can't be (-3), if one of these HOURS is in another SLOT there: of the last SHIP, at the last TERMINAL");
        Told x = new Told();
        for (int t = 0; t < 6; t++) {
            x.terminal(500, 500, 1, 30);
        }
        for (int s = 0; s < 6; s++) {
            x.ship(s, 1000, 1);
        }
        for (int t = 0; t < 6; t++) {
            due(x.slot(t, t % 2 == 0 ? 5 : 0, 10, 19), t + 1);
        }
        for (int t = 0; t < 6; t++) {
            for (int s = 0; s < 6; s++) {
                due(x.slot(t, s, 19, 19), -3);
                due(x.slot(t, s, 0, 10), -3);
            }
        }
        due(x.slot(5, 5, 20, 29), 7);
        due(x.slot(0, 0, 20, 29), 8);
        x.order(0, LOAD, 100);
        x.order(5, LOAD, 100);
        x.go(30);
        due(x.of(0, GAS), 10);
        due(x.of(5, GAS), 10);
        due(x.part(5, 5), 10);
    }

    private static void brokenHours() {
        says("ARMS of a TERMINAL are BROKEN from an HOUR to an HOUR");
        Told x = loader(30);
        x.terminal(500, 500, 1, 30);
        x.broken(0, 0, 0);
        x.broken(0, 3, 5);
        x.broken(0, 4, 6);
        x.broken(0, 8, 8);
        x.broken(1, 7, 7);
        int[] tons = {0, 1, 2, 2, 2, 2, 2, 3, 3, 4};
        for (int t : tons) {
            x.go(1);
            due(x.of(0, GAS), t);
        }
    }

    private static void termsAtFirst() {
        says("BOILS (0 .. 100; 10 at first)");
        for (int tons : new int[] {10_000, 9999}) {
            Told x = new Told();
            x.terminal(20_000, 20_000, 10_000, 30);
            x.ship(0, 10_400, 1);
            x.slot(0, 0, 0, 99);
            x.order(0, LOAD, tons + 8);
            // 2 tons an HOUR are COOLED from HOUR 1 on, 8 till all are loaded; then one is BOILED of 10,000.
            x.go(5);
            due(x.of(0, GAS), tons);
            due(x.of(0, VAPOR), 8);
            x.go(1);
            due(x.of(0, GAS), tons - 2 - (tons == 10_000 ? 1 : 0));
            due(x.of(0, VAPOR), 10 + (tons == 10_000 ? 1 : 0));
        }
        says("LIMIT of pressure (1 .. 1000; 700 at first)");
        Told x = new Told();
        x.terminal(500_000, 500_000, 10_000, 30);
        x.ship(0, 200_000, 1);
        x.slot(0, 0, 0, 2399);
        for (int day = 0; day < 20; day++) {
            x.sea(day, 9);
        }
        x.order(0, LOAD, 200_000);
        x.order(0, LOAD, 200_000);
        x.go(240);
        // Filled up to 196,000 again each HOUR: 4205 tons in 6000 have PRESS 700, 4206 have 701.
        due(x.of(0, GAS), 196_000);
        due(x.of(0, PRESS), 700);
        due(x.of(0, VAPOR), 4205);
        due(x.book(0, 2) > 0 ? 1 : 0, 1);
    }

    private static void ordersBehindOneAnother() {
        says("ORDERS are done one behind the other; What is done is gone from the row");
        Told x = port(400, 30, 1000, 1);
        x.order(0, WAIT, 2);
        x.order(0, LOAD, 150);
        x.order(0, SAIL, 1);
        x.order(0, LAND, 50);
        int[][] rows = {{4, 0, 0}, {4, 0, 0}, {3, 150, 0}, {3, 50, 100}, {2, 0, 150}, {1, 50, 150}, {0, 0, 100}, {0, 0, 100}};
        for (int[] r : rows) {
            x.go(1);
            due(x.of(0, ORDERS), r[0]);
            due(x.of(0, TONS), r[1]);
            due(x.of(0, GAS), r[2]);
        }
        due(x.of(0, WHERE), 1);
    }

    // ---------------------------------------------------------------- II: gas, vapor, warmth

    /** Tons of three terminals, none of them lost. */
    private static Told mixed(int a, int b, int c) {
        Told x = port(4000, 30, 1000, 1);
        int[] tons = {a, b, c};
        for (int t = 0; t < 3; t++) {
            x.order(0, SAIL, t);
            if (tons[t] > 0) {
                x.order(0, LOAD, tons[t]);
            }
        }
        x.go(6);
        due(x.of(0, ORDERS), 0);
        for (int t = 0; t < 3; t++) {
            due(x.part(0, t), tons[t]);
        }
        return x;
    }

    private static void parts() {
        says("each PART gives tons times PART / GAS, cut; of what is left one each those with the greatest rests");
        int[][] all = {
            {100, 200, 300, 6, 1, 2, 3}, {100, 200, 300, 7, 1, 2, 4}, {100, 200, 300, 8, 1, 3, 4},
            {100, 200, 300, 1, 0, 0, 1}, {100, 200, 300, 5, 1, 2, 2}, {100, 200, 300, 580, 97, 193, 290},
            {300, 200, 100, 1, 1, 0, 0}, {200, 300, 100, 1, 0, 1, 0}, {1, 1, 98, 1, 0, 0, 1}, {50, 0, 50, 3, 2, 0, 1},
            {0, 100, 0, 9, 0, 9, 0}};
        for (int[] p : all) {
            Told x = mixed(p[0], p[1], p[2]);
            x.order(0, LAND, p[3]);
            x.go(1);
            due(x.landing(0, 4), p[3]);
            for (int t = 0; t < 3; t++) {
                due(x.led(0, t), p[4 + t]);
                due(x.part(0, t), p[t] - p[4 + t]);
            }
        }
        says("of alike ones the lower");
        int[][] alike = {
            {100, 100, 100, 1, 1, 0, 0}, {100, 100, 100, 2, 1, 1, 0}, {100, 100, 100, 3, 1, 1, 1}, {100, 100, 100, 4, 2, 1, 1},
            {100, 100, 100, 5, 2, 2, 1}, {100, 100, 0, 1, 1, 0, 0}, {0, 100, 100, 1, 0, 1, 0}, {100, 0, 100, 1, 1, 0, 0},
            {100, 200, 200, 1, 0, 1, 0}, {100, 200, 200, 2, 0, 1, 1}, {200, 200, 100, 3, 1, 1, 1}};
        for (int[] p : alike) {
            Told x = mixed(p[0], p[1], p[2]);
            x.order(0, LAND, p[3]);
            x.go(1);
            for (int t = 0; t < 3; t++) {
                due(x.led(0, t), p[4 + t]);
                due(x.part(0, t), p[t] - p[4 + t]);
            }
        }
    }

    /** Gas of six TERMINALS, a hundred tons of each. */
    private static void partsOfSix() {
        says("PARTS of its GAS by the TERMINALS where it was LOADED");
        Told x = new Told();
        for (int t = 0; t < 6; t++) {
            x.terminal(5000, 9000, 4000, 30);
        }
        x.ship(0, 1000, 1);
        x.terms(0, 1000);
        for (int t = 0; t < 6; t++) {
            x.slot(t, 0, 0, 99);
            if (t > 0) {
                x.way(t - 1, t, 1, false);
            }
            x.order(0, SAIL, t);
            x.order(0, LOAD, 100);
        }
        x.go(12);
        for (int t = 0; t < 6; t++) {
            due(x.part(0, t), 100);
            due(x.heat(t, 1000 + 10 * t), 1000);
        }
        x.order(0, LAND, 9);
        x.order(0, LAND, 1);
        x.go(2);
        // Nine: one and a half of each, so that the first three give two. Then 98, 98, 98, 99, 99, 99 are left.
        int[] nine = {2, 2, 2, 1, 1, 1};
        for (int t = 0; t < 6; t++) {
            due(x.led(0, t), nine[t]);
            due(x.led(1, t), t == 3 ? 1 : 0);
            due(x.part(0, t), 100 - nine[t] - (t == 3 ? 1 : 0));
        }
        due(x.landing(0, 5), (9000 + 2 * (10 + 20) + 30 + 40 + 50) / 9);
        says("of a LANDING the sum of PARTS times HEATS through tons: of one ton");
        due(x.landing(1, 4), 1);
        due(x.landing(1, 5), 1030);
        due(x.bill(0, 5), 0);
        due(x.led(0, 5), 1);
    }

    private static void press() {
        says("PRESS: VAPOR times 1000 through (CAP less GAS, and CAP / 100), cut");
        // CAP 1099: a hundredth is 10. One ton is BOILED an HOUR of 920 tons and more, and loaded again.
        Told x = port(4000, 30, 1099, 1);
        due(x.of(0, PRESS), 0);
        x.terms(100, 1000);
        x.sea(0, 9);
        x.order(0, LOAD, 200_000);
        x.go(3);
        due(x.of(0, GAS), 1077);
        for (int n = 3; n <= 12; n++) {
            due(x.of(0, VAPOR), n - 1);
            due(x.of(0, PRESS), (n - 1) * 1000 / (1099 - 1077 + 10));
            x.go(1);
        }
        says("PRESS: an empty tank has 0");
        Told y = port(4000, 30, 1000, 1);
        y.go(1);
        due(y.of(0, PRESS), 0);
    }

    private static void boiled() {
        says("(1) BOILED are GAS times (BOILS and the SEA of its DAY) / 100,000, cut");
        int[][] all = {{1000, 100, 0, 1}, {999, 100, 0, 0}, {1999, 100, 0, 1}, {2000, 100, 0, 2}, {2000, 0, 0, 0},
            {2000, 41, 9, 1}, {1999, 41, 9, 0}, {2000, 49, 0, 0}, {2000, 50, 0, 1}, {1000, 91, 9, 1}, {1000, 91, 8, 0},
            {2500, 31, 9, 1}, {2499, 31, 9, 0}, {2439, 41, 0, 0}, {2439, 32, 9, 0}};
        for (int[] b : all) {
            Told x = port(10_000, 30, 4000, 1);
            x.order(0, LOAD, b[0]);
            x.go(1);
            x.terms(b[1], 1000);
            x.sea(0, b[2]);
            x.go(1);
            ship(x, b[0] - b[3], b[3], 1780);
        }
    }

    /** In HOUR 4 the tons are fewer than the HEEL of 20, in HOUR 3 they are as many. */
    private static void warmed() {
        says("(2) If GAS is below the HEEL, WARM is 5 more (1800 at most)");
        Told x = port(4000, 30, 1000, 4);
        x.order(0, LOAD, 22);
        x.go(1);
        ship(x, 22, 0, 1800);
        x.go(1);
        ship(x, 21, 0, 1780);
        x.go(1);
        ship(x, 20, 0, 1760);
        x.go(1);
        ship(x, 19, 0, 1740);
        x.go(1);
        ship(x, 18, 0, 1745);
        x.go(10);
        ship(x, 8, 0, 1795);
        x.go(1);
        ship(x, 7, 0, 1800);
        x.go(1);
        ship(x, 6, 0, 1800);
        x.go(9);
        ship(x, 0, 0, 1800);
    }

    private static void cooled() {
        says("else, if WARM is above 0, it is 20 less (0 at least), and COOLED are what it is less times CAP / 100,000, cut");
        int[][] caps = {{1000, 0}, {4999, 0}, {5000, 1}, {9999, 1}, {10_000, 2}, {14_999, 2}, {99_999, 19}, {100_000, 20}};
        for (int[] c : caps) {
            Told x = port(10_000, 30, c[0], 1);
            x.order(0, LOAD, c[0] / 50);
            x.go(1);
            ship(x, c[0] / 50, 0, 1800);
            x.go(1);
            ship(x, c[0] / 50 - c[1], c[1], 1780);
        }
        // One ton less than the HEEL: nothing is COOLED.
        Told y = port(10_000, 30, 10_000, 1);
        y.order(0, LOAD, 199);
        y.go(5);
        ship(y, 199, 0, 1800);
    }

    /** 90 HOURS cool a ship from 1800 to 0; then it is warmed to 15 and cooled by just these. */
    private static void cooledToTheEnd() {
        says("it is 20 less (0 at least)");
        Told x = port(10_000, 30, 10_000, 4);
        x.order(0, LOAD, 2500);
        x.go(1 + 89);
        ship(x, 2500 - 178, 89, 20);
        x.go(1);
        ship(x, 2500 - 180, 90, 0);
        x.go(1);
        ship(x, 2500 - 180, 89, 0);
        // In a space of 9900 tons 19 have PRESS 1, of which one is burnt in each HOUR.
        x.terms(0, 1);
        x.order(0, LAND, 5000);
        x.go(1);
        ship(x, 200, 19, 0);
        x.go(19);
        ship(x, 200, 0, 0);
        x.go(1);
        ship(x, 199, 0, 0);
        x.go(1);
        ship(x, 198, 0, 5);
        x.go(1);
        ship(x, 197, 0, 10);
        x.order(0, LOAD, 100);
        x.go(1);
        ship(x, 296, 0, 15);
        // 15 tenths times 10,000 / 100,000 is 1.5: one ton, which is burnt.
        x.go(1);
        ship(x, 295, 0, 0);
        x.go(1);
        ship(x, 294, 0, 0);
    }

    private static void burnt() {
        says("(3) It BURNS FUEL if it is at sea as the HOUR begins, else FUEL / 4, cut");
        int[][] fuels = {{1, 0}, {3, 0}, {4, 1}, {7, 1}, {8, 2}, {11, 2}, {48, 12}, {50, 12}};
        for (int[] f : fuels) {
            Told x = port(4000, 30, 1000, f[0]);
            x.way(0, 1, 10, false);
            x.order(0, LOAD, 500);
            x.order(0, SAIL, 1);
            x.go(1);
            due(x.of(0, DRIFTING), f[1] > 0 ? 1 : 0);
            due(x.book(0, 1), 0);
            x.go(1);
            due(x.of(0, GAS), 500 - f[1]);
            due(x.of(0, LEFT), 9);
            x.go(1);
            due(x.of(0, GAS), 500 - f[1] - f[0]);
            due(x.book(0, 1), f[1] + f[0]);
            // The HOUR in which it comes is one at sea, the next one is not.
            x.go(8);
            due(x.of(0, WHERE), 1);
            due(x.of(0, LEFT), 0);
            due(x.book(0, 1), Math.min(500, f[1] + 9 * f[0]));
            x.go(1);
            due(x.book(0, 1), Math.min(500, 2 * f[1] + 9 * f[0]));
            due(x.of(0, DRIFTING), 0);
        }
    }

    private static void burntOfVaporFirst() {
        says("of VAPOR first, then of GAS");
        Told x = port(4000, 30, 2000, 8);
        x.order(0, LOAD, 1000);
        x.go(1);
        x.terms(100, 1000);
        x.go(1);
        // One is BOILED and burnt, the other one is burnt of the GAS.
        ship(x, 998, 0, 1780);
        due(x.book(0, 1), 2);
        Told y = port(4000, 30, 2000, 4);
        y.order(0, LOAD, 1000);
        y.go(1);
        y.terms(100, 1000);
        y.go(1);
        ship(y, 999, 0, 1780);
        due(y.book(0, 1), 1);
        Told z = port(4000, 30, 3000, 4);
        z.order(0, LOAD, 2000);
        z.go(2);
        z.order(0, LOAD, 1);
        z.terms(100, 1000);
        z.go(1);
        due(z.of(0, VAPOR), 0);
        due(z.of(0, GAS), 2000 - 1 + 1 - 1);
    }

    /** With 12 tons it can burn the fourth of 10 and ten more; with 11 it drifts at once, with 13 an HOUR later too. */
    private static void drifting() {
        says("if both are too little, all that there is, and it is DRIFTING in this HOUR");
        int[][] all = {{11, 1, 9, 0, 11}, {12, 0, 8, 0, 12}, {13, 0, 8, 1, 12}};
        for (int[] d : all) {
            Told x = port(4000, 30, 1000, 10);
            x.way(0, 1, 10, false);
            x.order(0, LOAD, d[0]);
            x.order(0, SAIL, 1);
            x.go(2);
            due(x.of(0, DRIFTING), 0);
            due(x.of(0, GAS), d[0] - 2);
            due(x.of(0, LEFT), 9);
            x.go(1);
            due(x.of(0, DRIFTING), d[1]);
            due(x.of(0, LEFT), d[2]);
            due(x.of(0, GAS), d[3]);
            due(x.book(0, 1), d[4]);
            x.go(1);
            due(x.of(0, DRIFTING), 1);
            due(x.of(0, LEFT), d[2]);
            due(x.of(0, GAS), 0);
            due(x.book(0, 1), d[0]);
        }
        says("else 0: with FUEL below 4 it needs none at a TERMINAL");
        Told x = port(4000, 30, 1000, 3);
        x.go(3);
        due(x.of(0, DRIFTING), 0);
        Told y = port(4000, 30, 1000, 4);
        due(y.of(0, DRIFTING), 0);
        y.go(3);
        due(y.of(0, DRIFTING), 1);
        // Once there is what it needs it drifts no more.
        y.order(0, LOAD, 1);
        y.go(1);
        due(y.of(0, DRIFTING), 1);
        y.go(1);
        due(y.of(0, DRIFTING), 0);
        due(y.of(0, GAS), 0);
        y.go(1);
        due(y.of(0, DRIFTING), 1);
    }

    // ---------------------------------------------------------------- II: SAIL

    private static void sailsToWhereItIs() {
        says("SAIL: where it is already, it is done at once in this HOUR");
        Told x = port(400, 30, 1000, 1);
        x.order(0, SAIL, 0);
        x.order(0, LOAD, 5);
        x.go(1);
        due(x.of(0, ORDERS), 1);
        due(x.of(0, WHERE), 0);
        due(x.of(0, LEFT), 0);
        x.go(1);
        due(x.of(0, GAS), 5);
        due(x.of(0, ORDERS), 0);
    }

    /** In no HOUR does it need a TURN for that. */
    private static void sailsToWhereItIsInEachHour() {
        says("SAIL: where it is already, it is done at once in this HOUR");
        Told x = port(400, 30, 1000, 1);
        x.way(0, 1, 2, true);
        for (int h = 0; h < 25; h++) {
            due(x.order(0, SAIL, 0), 1);
            x.go(1);
            due(x.of(0, WHERE), 0);
            due(x.of(0, LEFT), 0);
            due(x.of(0, ORDERS), 0);
        }
    }

    /** A LOAD that was ended by the TOP, or by an empty STORE, is not taken up again. */
    private static void whatIsDoneStaysDone() {
        says("What is done is gone from the row");
        Told x = port(4000, 30, 2000, 1);
        x.order(0, LOAD, 200_000);
        x.go(6);
        due(x.of(0, GAS), 1960);
        due(x.of(0, ORDERS), 0);
        x.terms(100, 1000);
        x.go(5);
        due(x.of(0, GAS), 1955);
        due(x.book(0, 0), 1960);
        Told y = new Told();
        y.terminal(100, 1000, 400, 30);
        y.ship(0, 1000, 1);
        y.terms(0, 1000);
        y.slot(0, 0, 0, 99);
        y.order(0, LOAD, 300);
        y.go(2);
        due(y.of(0, GAS), 100);
        due(y.of(0, ORDERS), 0);
        y.order(0, LAND, 70);
        y.go(5);
        due(y.of(0, GAS), 30);
        due(y.store(0), 70);
        due(y.of(0, TONS), 0);
    }

    private static void sailsWithoutAWay() {
        says("(if there is a WAY; without it waits)");
        Told x = new Told();
        x.terminal(900, 900, 400, 30);
        x.terminal(900, 900, 400, 30);
        x.terminal(900, 900, 400, 30);
        x.ship(0, 1000, 1);
        x.way(0, 2, 5, false);
        x.way(1, 2, 5, false);
        x.order(0, SAIL, 1);
        x.order(0, SAIL, 2);
        x.go(9);
        due(x.of(0, WHERE), 0);
        due(x.of(0, LEFT), 0);
        due(x.of(0, ORDERS), 2);
        x.way(1, 0, 5, false);
        x.go(1);
        due(x.of(0, WHERE), 1);
        due(x.of(0, LEFT), 4);
    }

    private static Told withFuelFor(int way, int tons) {
        Told x = port(4000, 30, 1000, 1);
        x.way(1, 0, way, false);
        x.order(0, LOAD, tons);
        x.order(0, SAIL, 1);
        x.go(1);
        return x;
    }

    private static void wayHours() {
        says("so many HOURS (1 .. 400; both ways; told anew: the latest)");
        Told x = withFuelFor(1, 5);
        x.go(1);
        due(x.of(0, WHERE), 1);
        due(x.of(0, LEFT), 0);
        due(x.of(0, ORDERS), 0);
        due(x.of(0, GAS), 5);
        Told y = withFuelFor(2, 5);
        y.go(1);
        due(y.of(0, LEFT), 1);
        due(y.of(0, ORDERS), 1);
        y.go(1);
        due(y.of(0, LEFT), 0);
        due(y.of(0, ORDERS), 0);
        due(y.of(0, GAS), 4);
        // 399 HOURS begin at sea: with 399 tons it comes, with 398 it drifts an HOUR away.
        for (int tons : new int[] {398, 399, 400}) {
            Told z = withFuelFor(400, tons);
            z.go(1);
            due(z.of(0, LEFT), 399);
            z.go(398);
            due(z.of(0, LEFT), 1);
            due(z.of(0, ORDERS), 1);
            due(z.of(0, DRIFTING), 0);
            z.go(1);
            due(z.of(0, LEFT), tons == 398 ? 1 : 0);
            due(z.of(0, ORDERS), tons == 398 ? 1 : 0);
            due(z.of(0, DRIFTING), tons == 398 ? 1 : 0);
        }
        Told anew = withFuelFor(400, 100);
        anew.way(0, 1, 7, false);
        anew.way(1, 0, 3, false);
        anew.go(1);
        due(anew.of(0, LEFT), 2);
        anew.go(2);
        anew.order(0, SAIL, 0);
        anew.way(0, 1, 9, false);
        anew.go(1);
        due(anew.of(0, WHERE), 0);
        due(anew.of(0, LEFT), 8);
    }

    private static void rough() {
        says("unless it is DRIFTING, or the SEA is above 6 and h is odd");
        for (int sea = 0; sea <= 9; sea++) {
            for (int leaves = 1; leaves <= 2; leaves++) {
                Told x = withFuelFor(20, 100);
                if (leaves == 2) {
                    x = port(4000, 30, 1000, 1);
                    x.way(0, 1, 20, false);
                    x.order(0, LOAD, 100);
                    x.order(0, WAIT, 0);
                    x.order(0, SAIL, 1);
                    x.go(2);
                }
                x.sea(0, sea);
                int left = 20;
                for (int h = leaves; h < 9; h++) {
                    x.go(1);
                    left -= sea > 6 && h % 2 == 1 ? 0 : 1;
                    due(x.of(0, WHERE), 1);
                    due(x.of(0, LEFT), left);
                }
            }
        }
    }

    // ---------------------------------------------------------------- II: the canal

    private static int turn(int way, int leaves) {
        Told x = port(4000, 30, 1000, 1);
        x.way(0, 1, way, true);
        x.order(0, LOAD, 900);
        x.order(0, WAIT, leaves - 1);
        x.order(0, SAIL, 1);
        x.go(leaves);
        due(x.of(0, ORDERS), 1);
        for (int h = leaves; h < leaves + 60; h++) {
            x.go(1);
            if (x.of(0, LEFT) == 0) {
                due(x.of(0, WHERE), 1);
                return h;
            }
        }
        return NONE;
    }

    private static void canalHalves() {
        says("Through the CANAL: when half (cut) of the WAY's HOURS are left, it must have a TURN to go on");
        // Of one HOUR half is none: it comes in the HOUR in which it leaves.
        for (int leaves = 2; leaves < 27; leaves++) {
            due(turn(1, leaves), leaves);
        }
        due(turn(2, 2), 6);
        due(turn(2, 5), 6);
        due(turn(2, 6), 12);
        due(turn(3, 2), 6);
        due(turn(3, 4), 6);
        due(turn(3, 5), 12);
        due(turn(4, 2), 7);
        due(turn(4, 4), 7);
        due(turn(4, 5), 13);
        due(turn(5, 3), 7);
        due(turn(5, 4), 13);
        says("in an HOUR whose rest by 24 is 6, 12 or 18");
        int[] hours = {6, 12, 18, 30, 36, 42, 54};
        for (int leaves = 2; leaves < 50; leaves++) {
            int at = 0;
            while (hours[at] <= leaves) {
                at++;
            }
            due(turn(2, leaves), hours[at]);
        }
    }

    private static void longCanal() {
        says("half (cut) of the WAY's HOURS: 400");
        Told x = port(4000, 30, 1000, 1);
        x.way(0, 1, 400, true);
        x.order(0, LOAD, 900);
        x.order(0, SAIL, 1);
        x.go(1);
        x.go(200);
        due(x.of(0, LEFT), 200);
        // HOURS 201 to 203 go by, and 204 has the rest 12.
        x.go(3);
        due(x.of(0, LEFT), 200);
        x.go(1);
        due(x.of(0, LEFT), 199);
        x.go(198);
        due(x.of(0, LEFT), 1);
        x.go(1);
        due(x.of(0, ORDERS), 0);
    }

    /** Ships with 100 tons each, loaded in the first HOURS; WAYS 0 - 1 and 2 - 0 of two HOURS are through the canal. */
    private static Told convoy(int ships) {
        Told x = new Told();
        for (int t = 0; t < 3; t++) {
            x.terminal(5000, 5000, 400, 30);
        }
        x.terms(0, 1000);
        x.way(0, 1, 2, true);
        x.way(2, 0, 2, true);
        x.way(1, 2, 2, false);
        for (int s = 0; s < ships; s++) {
            x.ship(s % 2 == 0 ? 0 : 2, 1000, 1);
            x.slot(s % 2 == 0 ? 0 : 2, s, s, s);
            x.order(s, LOAD, 100);
        }
        x.go(ships);
        return x;
    }

    private static void oneTurnAnHour() {
        says("one SHIP only in an HOUR (SHIPS come one by one)");
        Told x = convoy(4);
        x.order(3, SAIL, 0);
        x.go(1);
        x.order(2, SAIL, 1);
        x.order(1, SAIL, 0);
        x.order(0, SAIL, 1);
        x.go(1);
        // All four are at half: ship 3 since HOUR 4, the others since HOUR 5; the lower goes first.
        due(x.count(0), 6);
        int[] left = {1, 1, 1, 1};
        for (int h = 6; h < 36; h++) {
            x.go(1);
            int first = h == 6 ? 0 : h == 12 ? 1 : h == 18 ? 2 : h == 30 ? 3 : NONE;
            if (first != NONE) {
                left[first] = 0;
            }
            for (int s = 0; s < 4; s++) {
                due(x.of(s, LEFT), left[s]);
            }
        }
    }

    private static void notAtHalf() {
        says("(one that can't go on in this HOUR anyway takes none)");
        // Ship 0 has 1 ton when half is left, which it burns; in HOUR 6 it drifts, and ship 1 has the turn.
        Told x = new Told();
        x.terminal(5000, 5000, 400, 30);
        x.terminal(5000, 5000, 400, 30);
        x.terms(0, 1000);
        x.way(0, 1, 2, true);
        x.ship(0, 1000, 3);
        x.ship(0, 1000, 3);
        x.slot(0, 0, 0, 0);
        x.slot(0, 1, 1, 1);
        x.order(0, LOAD, 5);
        x.order(1, LOAD, 100);
        x.order(0, SAIL, 1);
        x.order(1, SAIL, 1);
        x.go(6);
        due(x.of(0, LEFT), 1);
        due(x.of(0, DRIFTING), 1);
        due(x.of(1, LEFT), 1);
        x.go(1);
        due(x.of(0, LEFT), 1);
        due(x.of(1, LEFT), 0);
        says("when half (cut) of the WAY's HOURS are left: others need no TURN and take none");
        Told y = convoy(2);
        y.way(0, 1, 9, true);
        y.order(0, SAIL, 1);
        y.order(1, SAIL, 0);
        y.go(4);
        due(y.of(0, LEFT), 5);
        due(y.of(1, LEFT), 1);
        // In HOUR 6 ship 0 comes from 5 to 4, which is half of 9; it needs its TURN in the next HOURS only.
        y.go(1);
        due(y.of(0, LEFT), 4);
        due(y.of(1, LEFT), 0);
        y.go(5);
        due(y.of(0, LEFT), 4);
        y.go(1);
        due(y.of(0, LEFT), 3);
        says("through the CANAL or not");
        Told z = convoy(2);
        z.way(2, 0, 2, false);
        z.order(0, SAIL, 1);
        z.order(1, SAIL, 0);
        z.go(2);
        due(z.of(0, LEFT), 1);
        due(z.of(1, LEFT), 0);
    }

    // ---------------------------------------------------------------- II: LOAD, LAND, WAIT

    private static void draft() {
        says("its DRAFT (8, and 8 times GAS / CAP, cut, more)");
        int[][] all = {{1, 8}, {124, 8}, {125, 9}, {249, 9}, {250, 10}, {499, 11}, {500, 12}, {874, 14}, {875, 15}, {980, 15}};
        for (int[] d : all) {
            Told x = port(4000, 30, 1000, 1);
            due(x.of(0, DRAFT), 8);
            x.order(0, LOAD, d[0]);
            x.go(1);
            due(x.of(0, DRAFT), d[1]);
        }
        says("the DEPTH and TIDE of h are not below its DRAFT");
        for (int deep = 8; deep <= 16; deep++) {
            Told x = port(1, deep, 1000, 1);
            Told y = port(4000, deep, 1000, 1);
            y.order(0, LOAD, 200_000);
            y.order(0, WAIT, 0);
            y.go(5);
            // At DEPTH 8 it loads 980 tons at once, for its DRAFT was 8; then it lies too deep, but for DEPTH 15 and more.
            due(y.of(0, GAS), 980);
            due(y.of(0, ORDERS), deep >= 15 ? 0 : 2);
            x.order(0, LOAD, 980);
            x.go(480);
            x.go(480);
            x.go(480);
            due(x.of(0, GAS), Math.min(980, 125 * (deep - 7)));
            due(x.of(0, ORDERS), deep >= 15 ? 0 : 1);
        }
    }

    private static void rates() {
        says("LOAD as many tons as the RATE (a fourth of it, cut, 1 at least, if WARM is above 200)");
        int[][] fourths = {{1, 1}, {2, 1}, {3, 1}, {4, 1}, {7, 1}, {8, 2}, {399, 99}, {400, 100}, {10_000, 2500}};
        for (int[] f : fourths) {
            Told x = port(f[0], 30, 4000, 1);
            x.order(0, LOAD, 200_000);
            x.go(1);
            due(x.of(0, GAS), f[1]);
            due(x.of(0, TONS), 200_000 - f[1]);
            due(x.store(0), 50_000 - f[1]);
        }
        // 99 tons are as many as the HEEL up to HOUR 80: WARM is 220 behind HOUR 79, 200 behind 80, 205 behind 81.
        Told a = port(400, 30, 1000, 4);
        a.order(0, LOAD, 99);
        a.go(79);
        ship(a, 99 - 78, 0, 240);
        a.order(0, LOAD, 1000);
        a.go(1);
        ship(a, 99 - 79 + 100, 0, 220);
        a.go(1);
        ship(a, 99 - 80 + 100 + 400, 0, 200);
        Told b = port(400, 30, 1000, 4);
        b.order(0, LOAD, 99);
        b.go(81);
        ship(b, 19, 0, 200);
        b.order(0, LOAD, 1000);
        b.go(1);
        ship(b, 18 + 100, 0, 205);
        b.go(1);
        ship(b, 17 + 100 + 400, 0, 185);
    }

    private static void loadsTheLeast() {
        says("what is left of the ORDER, of the STORE, and up to the TOP: all of the least");
        // STORE, CAP of the ship, ORDER: what is loaded in the first HOURS, at 1000 tons an HOUR while it is warm.
        int[][] all = {
            {5000, 4000, 999, 999, 999}, {5000, 4000, 1000, 1000, 1000}, {5000, 4000, 1001, 1000, 1001},
            {999, 4000, 5000, 999, 999}, {1000, 4000, 5000, 1000, 1000}, {1001, 4000, 5000, 1000, 1001},
            {5000, 1019, 5000, 998, 998}, {5000, 1020, 5000, 999, 999}, {5000, 1021, 5000, 1000, 1000},
            {5000, 1022, 5000, 1000, 1001}, {500, 1000, 500, 500, 500}, {0, 1000, 5, 0, 0}};
        for (int[] l : all) {
            Told x = new Told();
            x.terminal(l[0], 5000, 4000, 30);
            x.ship(0, l[1], 1);
            x.terms(0, 1000);
            x.slot(0, 0, 0, 99);
            x.order(0, LOAD, l[2]);
            x.go(1);
            due(x.of(0, GAS), l[3]);
            due(x.of(0, ORDERS), l[2] == l[3] || l[3] == 0 ? 0 : 1);
            due(x.of(0, TONS), l[2] == l[3] || l[3] == 0 ? 0 : l[2] - l[3]);
            x.go(2);
            due(x.of(0, GAS), l[4]);
            due(x.book(0, 0), l[4]);
            due(x.store(0), l[0] - l[4]);
            due(x.of(0, ORDERS), 0);
            due(x.count(4), 0);
        }
    }

    private static void landsTheLeast() {
        says("LAND as many as the RATE, what is left of the ORDER, GAS above the HEEL, and room in the STORE");
        // RATE of terminal 1, its room, tons loaded, ORDER: landed in the first HOUR, in all, and in which HOUR it is done.
        int[][] all = {
            {100, 900, 500, 99, 99, 99, 2}, {100, 900, 500, 100, 100, 100, 2}, {100, 900, 500, 101, 100, 101, 3},
            {100, 99, 500, 400, 99, 99, 3}, {100, 100, 500, 400, 100, 100, 3}, {100, 101, 500, 400, 100, 101, 4},
            {100, 900, 119, 400, 99, 99, 3}, {100, 900, 120, 400, 100, 100, 3}, {100, 900, 121, 400, 100, 101, 4},
            {1, 900, 500, 1, 1, 1, 2}, {10_000, 900, 500, 480, 480, 480, 2}, {10_000, 900, 500, 481, 480, 480, 3},
            {100, 0, 500, 5, 0, 0, 2}, {100, 900, 20, 5, 0, 0, 2}, {100, 900, 19, 5, 0, 0, 2}, {100, 900, 21, 5, 1, 1, 3},
            {100, 1, 500, 1, 1, 1, 2}};
        for (int[] l : all) {
            Told x = new Told();
            x.terminal(5000, 5000, 4000, 30);
            x.terminal(1000, 1000 + l[1], l[0], 30);
            x.ship(0, 1000, 1);
            x.terms(0, 1000);
            x.way(0, 1, 1, false);
            x.slot(0, 0, 0, 99);
            x.slot(1, 0, 0, 99);
            x.order(0, LOAD, l[2]);
            x.order(0, SAIL, 1);
            x.order(0, LAND, l[3]);
            x.go(3);
            due(x.store(1), 1000 + l[4]);
            due(x.of(0, GAS), l[2] - l[4]);
            for (int h = 3; h <= 5; h++) {
                due(x.of(0, ORDERS), h > l[6] ? 0 : 1);
                due(x.count(4), h > l[6] && l[5] > 0 ? 1 : 0);
                x.go(1);
            }
            due(x.store(1), 1000 + l[5]);
            due(x.book(0, 3), l[5]);
            due(x.landing(0, 4), l[5] > 0 ? l[5] : NONE);
            due(x.landing(0, 2), l[5] > 0 ? 2 : NONE);
            due(x.landing(0, 3), l[5] > l[4] ? 3 : l[5] > 0 ? 2 : NONE);
        }
    }

    /** That the STORE is empty ends a LOAD only in an HOUR in which tons may go. */
    private static void onlyWhenTonsMayGo() {
        says("if in an HOUR in which tons may go the STORE, the TOP, the HEEL, or the room lets none go");
        for (int sort : new int[] {LOAD, LAND}) {
            Told x = new Told();
            x.terminal(0, 0, 400, 7);
            x.ship(0, 1000, 1);
            x.slot(0, 0, 3, 9);
            x.broken(0, 3, 4);
            x.tide(6, 1);
            x.order(0, sort, 5);
            // HOURS 0 .. 2 are in no SLOT, 3 and 4 are BROKEN, in 5 it is not deep enough, in 6 tons may go.
            x.go(6);
            due(x.of(0, ORDERS), 1);
            due(x.of(0, TONS), 5);
            x.go(1);
            due(x.of(0, ORDERS), 0);
            due(x.count(4), 0);
            due(x.book(0, 0), 0);
            due(x.book(0, 3), 0);
        }
    }

    private static void waits() {
        says("WAIT: done when h is its HOUR or behind");
        Told x = port(400, 30, 1000, 1);
        x.order(0, WAIT, 5);
        x.order(0, WAIT, 5);
        x.order(0, WAIT, 0);
        x.order(0, WAIT, 9);
        int[] left = {4, 4, 4, 4, 4, 3, 2, 1, 1, 0};
        for (int n : left) {
            x.go(1);
            due(x.of(0, ORDERS), n);
        }
        x.order(0, WAIT, 2399);
        for (int n = 0; n < 4; n++) {
            x.go(480);
        }
        x.go(2399 - 1930);
        due(x.of(0, ORDERS), 1);
    }

    /** In each HOUR one ton is BOILED of 980 and loaded again: so many tons of VAPOR in a space of 30. */
    private static void vented() {
        says("(5) If PRESS is above LIMIT, VAPOR is VENTED ton by ton till it is not");
        int[][] limits = {{1000, 30}, {999, 29}, {967, 29}, {966, 29}, {965, 28}, {700, 21}, {699, 20}, {100, 3}, {99, 2},
            {66, 2}, {65, 1}, {33, 1}, {32, 0}, {1, 0}};
        for (int[] l : limits) {
            Told x = port(4000, 30, 1000, 1);
            x.terms(100, l[0]);
            x.sea(0, 9);
            x.sea(1, 9);
            x.order(0, LOAD, 200_000);
            x.go(1);
            x.go(l[1]);
            due(x.of(0, GAS), 980);
            due(x.of(0, VAPOR), l[1]);
            due(x.book(0, 2), 0);
            for (int n = 1; n <= 5; n++) {
                x.go(1);
                due(x.of(0, VAPOR), l[1]);
                due(x.book(0, 2), n);
                due(x.of(0, PRESS), l[1] * 1000 / 30);
            }
            // From a greater LIMIT to a smaller one all that is too much is VENTED in an HOUR.
            if (l[0] == 1000) {
                x.terms(0, 100);
                x.go(1);
                due(x.of(0, VAPOR), 3);
                due(x.book(0, 2), 5 + 27);
            }
        }
    }

    /** 27 tons in a space of 31 have PRESS 870: the most that there may be. */
    private static void ventedInAnOddSpace() {
        says("(5) If PRESS is above LIMIT, VAPOR is VENTED ton by ton till it is not");
        for (int[] l : new int[][] {{871, 27}, {870, 27}, {869, 26}, {839, 26}, {838, 26}, {837, 25}}) {
            Told x = port(4100, 30, 1050, 1);
            x.terms(100, l[0]);
            x.sea(0, 9);
            x.sea(1, 9);
            x.order(0, LOAD, 200_000);
            x.go(2 + l[1]);
            due(x.of(0, GAS), 1029);
            x.go(4);
            due(x.of(0, VAPOR), l[1]);
            due(x.of(0, PRESS), l[1] * 1000 / 31);
        }
    }

    private static void landingHours() {
        says("the first and the last HOUR in which tons were, tons, their PARTS");
        Told x = mixed(300, 300, 300);
        x.terminal(0, 100_000, 100, 30);
        x.way(2, 3, 1, false);
        x.slot(3, 0, 0, 9);
        x.slot(3, 0, 12, 99);
        x.broken(3, 13, 13);
        x.order(0, SAIL, 3);
        x.order(0, LAND, 250);
        x.order(0, WAIT, 8);
        x.order(0, LAND, 250);
        x.go(5);
        // HOURS 7 (100), 8 (100) and 9 (50) for the first; WAIT in 10; 12 (100), 14 (100), 15 (50) for the second.
        due(x.landing(0, 2), 7);
        due(x.landing(0, 3), 9);
        due(x.landing(0, 4), 250);
        due(x.led(0, 0) + x.led(0, 1) + x.led(0, 2), 250);
        due(x.count(4), 1);
        x.go(4);
        due(x.count(0), 15);
        due(x.count(4), 1);
        x.go(1);
        due(x.landing(1, 2), 12);
        due(x.landing(1, 3), 15);
        due(x.landing(1, 4), 250);
        due(x.landing(1, 0), 0);
        due(x.landing(1, 1), 3);
        due(x.led(1, 3), 0);
        due(x.part(0, 0) + x.part(0, 1) + x.part(0, 2), 400);
    }

    private static void tell(Told x, int... want) {
        for (int what = 0; what < want.length; what++) {
            due(x.of(0, what), want[what]);
        }
    }

    /** All that is told of a ship, HOUR by HOUR. */
    private static void whatIsToldOfAShip() {
        says("0 where it is (at sea whither), 1 HOURS left (0 at a TERMINAL), 7 what is left (0 of others, none), 9 DRIFTING");
        Told x = port(400, 30, 1000, 4);
        x.way(0, 1, 3, false);
        tell(x, 0, 0, 0, 0, 1800, 0, 0, 0, 8, 0);
        x.order(0, LOAD, 150);
        tell(x, 0, 0, 0, 0, 1800, 0, 1, 150, 8, 0);
        x.order(0, SAIL, 1);
        x.order(0, LAND, 100);
        x.order(0, WAIT, 9);
        x.go(1);
        tell(x, 0, 0, 100, 0, 1800, 0, 4, 50, 8, 1);
        x.go(1);
        tell(x, 0, 0, 149, 0, 1780, 0, 3, 0, 9, 0);
        x.go(1);
        says("at sea (also in the HOUR in which it left) one HOUR less is left");
        tell(x, 1, 2, 148, 0, 1760, 0, 3, 0, 9, 0);
        x.go(1);
        tell(x, 1, 1, 144, 0, 1740, 0, 3, 0, 9, 0);
        says("With none left it is at the TERMINAL, and the ORDER is done");
        x.go(1);
        tell(x, 1, 0, 140, 0, 1720, 0, 2, 100, 9, 0);
        x.go(1);
        says("The ORDER is done when nothing is left of it");
        tell(x, 1, 0, 39, 0, 1700, 0, 1, 0, 8, 0);
        x.go(4);
        tell(x, 1, 0, 35, 0, 1620, 0, 0, 0, 8, 0);
        says("BOOK of a SHIP: LOADED, BURNT, VENTED, LANDED, in all");
        due(x.book(0, 0), 150);
        due(x.book(0, 1), 1 + 1 + 4 + 4 + 1 + 4);
        due(x.book(0, 2), 0);
        due(x.book(0, 3), 100);
    }

    /** From nothing to many thousand tons each ton is in the book. */
    private static void allTonsAreInTheBook() {
        says("BOOK of a SHIP: LOADED, BURNT, VENTED, LANDED, in all");
        Told x = new Told();
        x.terminal(500_000, 500_000, 10_000, 30);
        x.terminal(0, 500_000, 10_000, 30);
        x.ship(0, 200_000, 50);
        x.terms(100, 1);
        x.way(0, 1, 5, false);
        x.slot(0, 0, 0, 2399);
        x.slot(1, 0, 0, 2399);
        for (int n = 0; n < 4; n++) {
            x.order(0, LOAD, 200_000);
            x.order(0, SAIL, 1);
            x.order(0, LAND, 200_000);
            x.order(0, SAIL, 0);
        }
        for (int n = 0; n < 24; n++) {
            x.go(20);
            due(x.book(0, 0), x.book(0, 1) + x.book(0, 2) + x.book(0, 3) + x.of(0, GAS) + x.of(0, VAPOR));
            due(x.part(0, 0), x.of(0, GAS));
            due(x.store(0) + x.book(0, 0), 500_000);
            due(x.store(1), x.book(0, 3));
        }
        due(x.book(0, 0), 500_000);
        due(x.book(0, 1) > 0 && x.book(0, 2) > 0 && x.book(0, 3) > 300_000 ? 1 : 0, 1);
    }

    /** Two ships sail, load and land in turn: many HOURS at once are as many HOURS one by one. */
    private static void hourByHour() {
        says("NOW is one more then (behind all SHIPS)");
        Told once = midst();
        Told step = midst();
        once.go(40);
        for (int n = 0; n < 40; n++) {
            due(step.go(1), 20 + n);
        }
        due(picture(once, true).equals(picture(step, true)) ? 1 : 0, 1);
    }

    public static void main(String[] args) {
        atFirst();
        heelAndTop();
        heelAndTopOfTheGreatest();
        tides();
        seas();
        slotsHaveBothEnds();
        slotsThatMeet();
        slotsOfTheLast();
        brokenHours();
        termsAtFirst();
        ordersBehindOneAnother();
        parts();
        partsOfSix();
        press();
        boiled();
        warmed();
        cooled();
        cooledToTheEnd();
        burnt();
        burntOfVaporFirst();
        drifting();
        sailsToWhereItIs();
        sailsToWhereItIsInEachHour();
        whatIsDoneStaysDone();
        sailsWithoutAWay();
        wayHours();
        rough();
        canalHalves();
        longCanal();
        oneTurnAnHour();
        notAtHalf();
        draft();
        rates();
        loadsTheLeast();
        landsTheLeast();
        onlyWhenTonsMayGo();
        waits();
        vented();
        ventedInAnOddSpace();
        landingHours();
        whatIsToldOfAShip();
        allTonsAreInTheBook();
        hourByHour();
        finish();
    }
}
