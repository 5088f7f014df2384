/** CARGOES, VOYAGES, the BEST of them, and IMAGES, at the edges that the document names in IV. */
public final class EdgesOfVoyagesTest extends Edges {

    /** RATES 100, 100, 50; WAYS 0 - 1 (10 HOURS) and 1 - 2 (20); ship 0 at 0, ship 1 at 2; nothing boils. */
    private static Told fleet() {
        Told x = new Told();
        x.terminal(0, 0, 100, 0);
        x.terminal(0, 0, 100, 0);
        x.terminal(0, 0, 50, 0);
        x.ship(0, 1000, 1);
        x.ship(2, 1000, 1);
        x.way(0, 1, 10, false);
        x.way(1, 2, 20, true);
        x.terms(0, 700);
        return x;
    }

    /** The one CARGO of a BEST: when it begins to LOAD and to LAND. */
    private static void loadsAndLands(Told world, int from, int load, int land) {
        Told x = world.copy();
        due(x.best(from) > 0 ? 1 : 0, 1);
        due(x.voyage(0, 0), 0);
        due(x.voyage(0, 2), load);
        due(x.voyage(0, 3), land);
        due(x.judge(0, 0, NONE, NONE, from), x.voyage(0, 4));
    }

    private static void cantBe(Told world, int ship, int from) {
        due(world.judge(ship, 0, NONE, NONE, from), NOTHING);
    }

    private static void ways() {
        says("it goes by its WAY (0 HOURS, where it is; none: it can't be) to the first TERMINAL");
        Told x = fleet();
        x.cargo(0, 1, 0, 99, 0, 99, 100, 50);
        due(x.judge(0, 0, NONE, NONE, 0), 5000 - 1000);
        // From 2 there is a WAY to 1 and on to 0, but none to 0.
        cantBe(x, 1, 0);
        x.way(2, 0, 7, true);
        due(x.judge(1, 0, NONE, NONE, 0), 5000 - 1700);
        x.way(0, 2, 8, false);
        due(x.judge(1, 0, NONE, NONE, 0), 5000 - 1800);
        says("goes by its WAY");
        Told y = fleet();
        y.cargo(0, 2, 0, 99, 0, 99, 100, 50);
        cantBe(y, 0, 0);
        due(y.best(0), 0);
        due(y.voyage(0, 0), NONE);
        y.way(0, 2, 30, false);
        due(y.judge(0, 0, NONE, NONE, 0), 5000 - 3000);
        loadsAndLands(y, 0, 0, 31);
        says("WAYS: so many HOURS (1 .. 400; both ways; told anew: the latest)");
        y.way(2, 0, 1, true);
        loadsAndLands(y, 0, 0, 2);
        y.way(2, 0, 400, true);
        cantBe(y, 0, 0);
        y.clear();
        y.cargo(0, 2, 0, 99, 0, 999, 100, 1000);
        loadsAndLands(y, 0, 0, 401);
    }

    private static void whereShipsAre() {
        says("from where it is or whither it is at sea by its first ORDER (reckoned as being there at that HOUR)");
        Told x = fleet();
        x.cargo(0, 1, 0, 99, 0, 99, 100, 50);
        x.cargo(1, 0, 0, 99, 0, 99, 100, 50);
        due(x.judge(0, 0, NONE, NONE, 0), 4000);
        due(x.judge(0, 1, NONE, NONE, 0), 3000);
        x.order(0, SAIL, 1);
        due(x.judge(0, 0, NONE, NONE, 0), 4000);
        x.go(1);
        due(x.of(0, LEFT), 9);
        due(x.judge(0, 0, NONE, NONE, 0), 3000);
        due(x.judge(0, 1, NONE, NONE, 0), 4000);
        due(x.best(5), 4000 + 4000);
        due(x.voyage(1, 1), 0);
        due(x.voyage(1, 2), 5);
        due(x.voyage(0, 2), 17);
    }

    private static void loading() {
        says("begins to LOAD there at that HOUR or a, whichever is later (it can't be behind b)");
        Told x = fleet();
        x.cargo(0, 1, 5, 8, 0, 99, 100, 50);
        loadsAndLands(x, 0, 5, 16);
        loadsAndLands(x, 4, 5, 16);
        loadsAndLands(x, 5, 5, 16);
        loadsAndLands(x, 6, 6, 17);
        loadsAndLands(x, 8, 8, 19);
        cantBe(x, 0, 9);
        due(x.best(9), 0);
        Told y = fleet();
        y.cargo(1, 0, 10, 10, 0, 99, 100, 50);
        loadsAndLands(y, 0, 10, 21);
        cantBe(y, 0, 1);
        says("LOADED from an HOUR a to b: at the ends of all HOURS");
        Told z = fleet();
        z.way(0, 1, 1, false);
        z.cargo(0, 1, 0, 0, 0, 2399, 100, 50);
        loadsAndLands(z, 0, 0, 2);
        cantBe(z, 0, 1);
        z.clear();
        z.cargo(0, 1, 2399, 2399, 0, 2399, 100, 50);
        cantBe(z, 0, 0);
        cantBe(z, 0, 2399);
        due(z.best(0), 0);
        due(z.best(2399), 0);
    }

    private static void landing() {
        says("begins to LAND likewise by c and d");
        Told x = fleet();
        x.cargo(0, 1, 0, 99, 20, 23, 100, 50);
        loadsAndLands(x, 0, 0, 20);
        loadsAndLands(x, 8, 8, 20);
        loadsAndLands(x, 9, 9, 20);
        loadsAndLands(x, 10, 10, 21);
        loadsAndLands(x, 12, 12, 23);
        cantBe(x, 0, 13);
        says("from c to d: at the ends of all HOURS");
        Told y = fleet();
        y.cargo(0, 1, 0, 99, 0, 10, 100, 50);
        cantBe(y, 0, 0);
        y.clear();
        y.cargo(0, 1, 0, 99, 0, 11, 100, 50);
        loadsAndLands(y, 0, 0, 11);
        y.clear();
        y.cargo(0, 1, 0, 99, 2399, 2399, 100, 50);
        loadsAndLands(y, 0, 0, 2399);
    }

    private static void hoursForTons() {
        says("for tons through the RATE, rounded up, HOURS");
        int[][] all = {{1, 1}, {99, 1}, {100, 1}, {101, 2}, {200, 2}, {201, 3}, {900, 9}, {901, 10}, {980, 10}};
        for (int[] t : all) {
            Told x = new Told();
            x.terminal(0, 0, 100, 0);
            x.terminal(0, 0, 100, 0);
            x.terminal(0, 0, 50, 0);
            x.ship(0, 1000, 1);
            x.way(0, 1, 1, false);
            x.way(1, 2, 1, false);
            x.terms(0, 700);
            x.cargo(0, 1, 0, 99, 0, 99, t[0], 1000);
            x.cargo(1, 2, 0, 99, 0, 99, t[0], 1000);
            x.cargo(2, 1, 0, 99, 0, 99, t[0], 1000);
            due(x.best(0), 3 * (1000L * t[0] - 100));
            due(x.voyage(0, 3), t[1] + 1);
            due(x.voyage(1, 2), 2 * t[1] + 1);
            due(x.voyage(1, 3), 3 * t[1] + 2);
            // At terminal 2 half as many tons go in an HOUR, also when they are landed there.
            int slow = (t[0] + 49) / 50;
            due(x.voyage(2, 2), 3 * t[1] + 2 + slow);
            due(x.voyage(2, 3), 3 * t[1] + 3 + 2 * slow);
        }
        says("for so many HOURS: RATES 1 and 10,000");
        Told x = new Told();
        x.terminal(0, 0, 1, 0);
        x.terminal(0, 0, 10_000, 0);
        x.ship(0, 200_000, 1);
        x.way(0, 1, 1, false);
        x.terms(0, 700);
        x.cargo(0, 1, 0, 0, 0, 2399, 2398, 10);
        x.cargo(0, 1, 0, 0, 0, 2399, 2397, 10);
        x.cargo(1, 0, 0, 99, 0, 99, 196_000, 1);
        // 2398 HOURS from 0 on, then one at sea: it would begin to LAND in 2399.
        due(x.judge(0, 0, NONE, NONE, 0), 23_980 - 100);
        due(x.judge(0, 1, NONE, NONE, 0), 23_970 - 100);
        due(x.judge(0, 2, NONE, NONE, 0), NOTHING);
        x.clear();
        x.cargo(0, 1, 0, 0, 0, 2399, 2399, 10);
        cantBe(x, 0, 0);
    }

    private static void tops() {
        says("Tons not above its TOP");
        int[][] caps = {{1000, 980}, {1049, 1028}, {1050, 1029}, {200_000, 196_000}};
        for (int[] c : caps) {
            Told x = new Told();
            x.terminal(0, 0, 10_000, 0);
            x.terminal(0, 0, 10_000, 0);
            x.ship(0, c[0], 1);
            x.way(0, 1, 1, false);
            x.terms(0, 700);
            x.cargo(0, 1, 0, 99, 0, 99, c[1], 10);
            x.cargo(0, 1, 0, 99, 0, 99, c[1] + 1, 10);
            due(x.judge(0, 0, NONE, NONE, 0), 10L * c[1] - 100);
            due(x.judge(0, 1, NONE, NONE, 0), NOTHING);
            due(x.best(0), 10L * c[1] - 100);
        }
    }

    /** 250 tons take three HOURS. */
    private static void brokenHours() {
        says("HOURS, which are all without BROKEN ones (BROKEN HOURS are passed by)");
        int[][] all = {{0, 0, 0, 14}, {0, 3, 0, 17}, {1, 1, 0, 14}, {2, 2, 0, 14}, {3, 3, 0, 13}, {1, 2, 0, 15}, {0, 99, 0, 113},
            {2, 2000, 0, 2012}};
        for (int[] b : all) {
            Told x = fleet();
            x.cargo(0, 1, 0, 9, 0, 2399, 250, 50);
            loadsAndLands(x, 0, 0, 13);
            x.broken(0, b[0], b[1]);
            loadsAndLands(x, 0, b[2], b[3]);
        }
        says("BROKEN HOURS of several rows, and of another TERMINAL");
        Told x = fleet();
        x.cargo(0, 1, 0, 9, 0, 2399, 250, 50);
        x.broken(2, 0, 2399);
        loadsAndLands(x, 0, 0, 13);
        x.broken(0, 4, 5);
        x.broken(0, 1, 2);
        loadsAndLands(x, 0, 0, 17);
        x.broken(0, 2, 4);
        loadsAndLands(x, 0, 0, 18);
        x.broken(1, 0, 17);
        loadsAndLands(x, 0, 0, 18);
        // The HOUR in which it begins is that in which it comes, though it may be BROKEN.
        x.broken(1, 18, 18);
        loadsAndLands(x, 0, 0, 18);
        x.broken(0, 9, 9);
        loadsAndLands(x, 9, 9, 23);
        cantBe(x, 0, 10);
        says("all ends by HOUR 2399: BROKEN up to the last");
        x.broken(0, 11, 2399);
        // From HOUR 6 on four HOURS are whole (6, 7, 8, 10), from 7 on three, from 8 on two.
        loadsAndLands(x, 6, 6, 19);
        loadsAndLands(x, 7, 7, 21);
        cantBe(x, 0, 8);
        cantBe(x, 0, 9);
    }

    private static void landingPastBrokenHours() {
        says("begins to LAND likewise, for so many HOURS: BROKEN ones are passed by");
        // The second CARGO is loaded where the first one was landed, in the HOUR behind.
        int[][] all = {{99, 99, 16}, {13, 13, 17}, {14, 14, 17}, {15, 15, 17}, {16, 16, 16}, {12, 12, 16}, {13, 20, 24}, {0, 15, 19}};
        for (int[] b : all) {
            Told x = fleet();
            x.cargo(0, 1, 0, 9, 0, 99, 250, 50);
            x.cargo(1, 0, 0, 99, 0, 99, 100, 50);
            x.broken(1, b[0], b[1]);
            x.best(0);
            due(x.voyage(0, 3), 13);
            due(x.voyage(1, 0), 0);
            due(x.voyage(1, 1), 1);
            due(x.voyage(1, 2), b[2]);
        }
    }

    private static void endsByTheLast() {
        says("all ends by HOUR 2399");
        // 250 tons are landed in three HOURS.
        int[][] all = {{2396, 1}, {2397, 1}, {2398, 0}, {2399, 0}};
        for (int[] e : all) {
            Told x = fleet();
            x.cargo(0, 1, 0, 9, e[0], e[0], 250, 50);
            due(x.judge(0, 0, NONE, NONE, 0), e[1] == 1 ? 12_500 - 1000 : NOTHING);
            due(x.best(0), e[1] == 1 ? 11_500 : 0);
            x.broken(1, 2396, 2396);
            due(x.judge(0, 0, NONE, NONE, 0), e[1] == 1 ? 11_500 : NOTHING);
            x.broken(1, 2399, 2399);
            due(x.judge(0, 0, NONE, NONE, 0), NOTHING);
        }
        Told x = fleet();
        x.cargo(0, 1, 2388, 2399, 0, 2399, 100, 50);
        due(x.judge(0, 0, NONE, NONE, 2388), 4000);
        due(x.judge(0, 0, NONE, NONE, 2389), NOTHING);
        x.broken(1, 2399, 2399);
        due(x.judge(0, 0, NONE, NONE, 2387), NOTHING);
        x.broken(0, 2399, 2399);
        x.clear();
        x.cargo(0, 1, 0, 2399, 0, 2399, 100, 50);
        due(x.judge(0, 0, NONE, NONE, 2387), 4000);
        due(x.judge(0, 0, NONE, NONE, 2388), NOTHING);
    }

    private static long boiledWorth(int tons, int hours, int boils) {
        Told x = fleet();
        x.terms(boils, 700);
        x.sea(0, 9);
        x.cargo(0, 1, 0, 0, hours, hours, tons, 1);
        return x.judge(0, 0, NONE, NONE, 0) + 1000;
    }

    private static void boiledOnPaper() {
        says("BOILED on paper are tons times the HOURS from beginning to LOAD up to beginning to LAND times BOILS / 100,000, cut");
        due(boiledWorth(200, 50, 10), 199);
        due(boiledWorth(200, 49, 10), 200);
        due(boiledWorth(200, 99, 10), 199);
        due(boiledWorth(200, 100, 10), 198);
        due(boiledWorth(200, 2000, 0), 200);
        due(boiledWorth(271, 41, 9), 271);
        due(boiledWorth(250, 40, 10), 249);
        due(boiledWorth(980, 2000, 10), 980 - 196);
        says("(at most the tons)");
        due(boiledWorth(200, 999, 100), 1);
        due(boiledWorth(200, 1000, 100), 0);
        due(boiledWorth(200, 1001, 100), 0);
        due(boiledWorth(200, 2397, 100), 0);
        due(boiledWorth(1, 999, 100), 1);
        due(boiledWorth(1, 1000, 100), 0);
        says("BOILED on paper: HOURS of loading and waiting are with them");
        Told x = fleet();
        x.terms(100, 700);
        x.cargo(0, 1, 0, 0, 0, 99, 500, 10);
        // Five HOURS of loading and ten at sea: 7.5 tons.
        due(x.judge(0, 0, NONE, NONE, 0), (500 - 7) * 10 - 1000);
        x.broken(0, 2, 6);
        due(x.judge(0, 0, NONE, NONE, 0), (500 - 10) * 10 - 1000);
        // What goes by ahead of loading is not with them.
        x.clear();
        x.cargo(0, 1, 40, 60, 0, 99, 500, 10);
        due(x.judge(0, 0, NONE, NONE, 0), (500 - 7) * 10 - 1000);
        due(x.judge(0, 0, NONE, NONE, 60), (500 - 7) * 10 - 1000);
    }

    private static void worths() {
        says("WORTH of a CARGO: (tons less these) times its price, less 100 times FUEL for each HOUR at sea with it or to it");
        int[][] all = {{0, 1}, {1, 1}, {1000, 1}, {0, 50}, {1, 50}, {1000, 50}};
        for (int[] w : all) {
            Told x = fleet();
            x.ship(2, 1000, w[1]);
            x.cargo(1, 2, 50, 50, 90, 90, 300, w[0]);
            due(x.judge(2, 0, NONE, NONE, 0), 300L * w[0] - 100L * w[1] * 40);
            due(x.judge(0, 0, NONE, NONE, 0), 300L * w[0] - 100L * 30);
        }
        Told x = new Told();
        x.terminal(0, 0, 10_000, 0);
        x.terminal(0, 0, 10_000, 0);
        x.ship(0, 200_000, 50);
        x.way(0, 1, 400, false);
        x.terms(0, 700);
        x.cargo(0, 1, 0, 0, 0, 999, 196_000, 1000);
        x.cargo(1, 0, 0, 999, 0, 999, 196_000, 1000);
        x.cargo(0, 1, 0, 2399, 0, 2399, 1, 0);
        due(x.judge(0, 0, NONE, NONE, 0), 196_000_000L - 2_000_000);
        due(x.judge(0, 0, 1, NONE, 0), 2 * (196_000_000L - 2_000_000));
        due(x.judge(0, 0, 1, 2, 0), 2 * (196_000_000L - 2_000_000) - 2_000_000);
        due(x.judge(0, 0, 2, NONE, 0), 196_000_000L - 2_000_000 - 4_000_000);
    }

    private static void rowsThatAreTold() {
        says("CARGOES (a, b, c; NONE: not so many; behind one no more are looked at)");
        Told x = fleet();
        x.cargo(0, 1, 0, 99, 0, 99, 100, 50);
        x.cargo(1, 0, 0, 99, 0, 99, 100, 60);
        x.cargo(0, 1, 0, 99, 0, 99, 100, 70);
        due(x.judge(0, NONE, NONE, NONE, 0), 0);
        for (int bad : new int[] {NONE, 0, 3, -2, MIN, MAX}) {
            due(x.judge(0, NONE, bad, bad, 0), 0);
            due(x.judge(0, 0, NONE, bad, 0), 4000);
        }
        due(x.judge(0, 0, 1, NONE, 0), 9000);
        due(x.judge(0, 0, 1, 2, 0), 15_000);
        due(x.judge(0, 0, 2, NONE, 0), 4000 + 6000 - 1000);
        due(x.judge(0, 2, 1, 0, 0), 15_000);
        for (int bad : new int[] {3, 6, -2, MIN, MAX}) {
            due(x.judge(0, bad, NONE, NONE, 0), NOTHING);
            due(x.judge(0, 0, bad, NONE, 0), NOTHING);
            due(x.judge(0, 0, 1, bad, 0), NOTHING);
        }
        says("A CARGO is in one row at most");
        due(x.judge(0, 0, 0, NONE, 0), NOTHING);
        due(x.judge(0, 0, 1, 0, 0), NOTHING);
        due(x.judge(0, 0, 1, 1, 0), NOTHING);
        says("from an HOUR on");
        due(x.judge(0, 0, NONE, NONE, 88), 4000);
        due(x.judge(0, 0, NONE, NONE, 89), NOTHING);
        due(x.judge(0, NONE, NONE, NONE, 2399), 0);
        due(x.judge(0, NONE, NONE, NONE, 2400), NOTHING);
        due(x.judge(0, NONE, NONE, NONE, -1), NOTHING);
        due(x.judge(0, 0, NONE, NONE, -1), NOTHING);
        says("judge: a SHIP that there is not");
        due(x.judge(1, NONE, NONE, NONE, 0), 0);
        due(x.judge(2, NONE, NONE, NONE, 0), NOTHING);
        due(x.judge(-1, NONE, NONE, NONE, 0), NOTHING);
        due(x.judge(MIN, 0, NONE, NONE, 0), NOTHING);
        due(x.judge(MAX, 0, NONE, NONE, 0), NOTHING);
        due(new Told().judge(0, NONE, NONE, NONE, 0), NOTHING);
    }

    private static void firstThree() {
        says("VOYAGES of SHIPS, 3 at most (the first three)");
        Told x = fleet();
        x.ship(1, 1000, 2);
        x.ship(0, 1000, 1);
        for (int n = 0; n < 4; n++) {
            x.cargo(0, 1, 20, 20, 0, 99, 100, 100);
        }
        // In HOUR 20 ships 0, 2 and 3 could LOAD, but ship 3 is behind the first three; ship 1 has no WAY.
        due(x.judge(0, 0, NONE, NONE, 0), 9000);
        due(x.judge(1, 0, NONE, NONE, 0), NOTHING);
        due(x.judge(2, 0, NONE, NONE, 0), 10_000 - 4000);
        due(x.judge(3, 0, NONE, NONE, 0), NOTHING);
        due(x.judge(3, NONE, NONE, NONE, 0), NOTHING);
        due(x.best(0), 9000 + 6000);
        due(x.voyage(0, 0), 0);
        due(x.voyage(1, 0), 2);
        due(x.voyage(2, 0), NONE);
        due(x.voyage(3, 0), NONE);
    }

    private static void noneAtAll() {
        says("BEST: the rows of greatest WORTH together (none at all have 0)");
        Told x = new Told();
        due(x.best(0), 0);
        due(x.voyage(0, 0), NOTHING);
        x.terminal(0, 0, 100, 0);
        x.terminal(0, 0, 100, 0);
        x.way(0, 1, 10, false);
        x.cargo(0, 1, 0, 99, 0, 99, 100, 50);
        // Without ships every CARGO is left out.
        due(x.best(0), 0);
        due(x.voyage(0, 0), NONE);
        for (int what = 1; what <= 4; what++) {
            due(x.voyage(0, what), NOTHING);
        }
        due(x.voyage(1, 0), NOTHING);
        x.terms(0, 700);
        x.ship(0, 1000, 1);
        due(x.best(0), 4000);
        due(x.voyage(0, 0), 0);
        says("of alike ones that with the fewest CARGOES");
        x.clear();
        x.cargo(0, 1, 0, 99, 0, 99, 100, 10);
        due(x.judge(0, 0, NONE, NONE, 0), 0);
        due(x.best(0), 0);
        due(x.voyage(0, 0), NONE);
        x.clear();
        x.cargo(0, 1, 0, 99, 0, 99, 101, 10);
        due(x.best(0), 10);
        due(x.voyage(0, 0), 0);
        x.clear();
        x.cargo(0, 1, 0, 99, 0, 99, 99, 10);
        due(x.judge(0, 0, NONE, NONE, 0), -10);
        due(x.best(0), 0);
        due(x.voyage(0, 0), NONE);
        // One that costs is in the row, if the next one is worth more by it.
        x.cargo(1, 0, 11, 25, 0, 99, 100, 100);
        due(x.judge(0, 1, NONE, NONE, 0), 10_000 - 2000);
        due(x.judge(0, 0, 1, NONE, 0), -10 + 9000);
        due(x.best(0), 8990);
        due(x.voyage(0, 1), 0);
        due(x.voyage(1, 1), 1);
        due(x.voyage(0, 4), -10);
    }

    private static void alike() {
        says("then the first as a row of numbers: of each CARGO its SHIP (NONE: left out, behind all)");
        Told x = new Told();
        x.terminal(0, 0, 100, 0);
        x.terminal(0, 0, 100, 0);
        for (int s = 0; s < 3; s++) {
            x.ship(0, 1000, 1);
        }
        x.way(0, 1, 10, false);
        x.terms(0, 700);
        for (int n = 0; n < 4; n++) {
            x.cargo(0, 1, 0, 0, 0, 99, 100, 50);
        }
        // Three of the four: the last one is left out, ship 0 has the first.
        due(x.best(0), 3 * 4000);
        for (int n = 0; n < 3; n++) {
            due(x.voyage(n, 0), n);
            due(x.voyage(n, 1), 0);
        }
        due(x.voyage(3, 0), NONE);
        x.clear();
        x.cargo(0, 1, 0, 0, 0, 99, 100, 20);
        x.cargo(0, 1, 0, 0, 0, 99, 100, 50);
        x.cargo(0, 1, 0, 0, 0, 99, 100, 50);
        x.cargo(0, 1, 0, 0, 0, 99, 100, 50);
        due(x.best(0), 3 * 4000);
        due(x.voyage(0, 0), NONE);
        due(x.voyage(1, 0), 0);
        due(x.voyage(2, 0), 1);
        due(x.voyage(3, 0), 2);
        says("then of each its place in that SHIP's row");
        Told y = new Told();
        y.terminal(0, 0, 100, 0);
        y.terminal(0, 0, 100, 0);
        y.ship(0, 1000, 1);
        y.way(0, 1, 10, false);
        y.terms(0, 700);
        y.cargo(1, 0, 0, 999, 0, 999, 100, 50);
        y.cargo(0, 1, 0, 999, 0, 999, 100, 50);
        y.cargo(1, 0, 0, 999, 0, 999, 100, 50);
        y.cargo(0, 1, 0, 999, 0, 999, 100, 50);
        // 1, 0, 3, 2: the first CARGO as early as may be, then the second one.
        due(y.best(0), 16_000);
        int[] places = {1, 0, 3, 2};
        for (int n = 0; n < 4; n++) {
            due(y.voyage(n, 0), 0);
            due(y.voyage(n, 1), places[n]);
        }
    }

    /** A CARGO of the lower number stays with the lower SHIP, though the rows are as good the other way round. */
    private static void alikeOfTwo() {
        says("the fewest CARGOES, then the first as a row of numbers");
        Told x = new Told();
        x.terminal(0, 0, 100, 0);
        x.terminal(0, 0, 100, 0);
        x.ship(1, 1000, 1);
        x.ship(0, 1000, 1);
        x.way(0, 1, 10, false);
        x.terms(0, 700);
        x.cargo(0, 1, 0, 999, 0, 999, 100, 50);
        x.cargo(1, 0, 0, 999, 0, 999, 100, 50);
        // Ship 0 does 1 and then 0: as much as each by the ship that is there, and it is ahead as a row of numbers.
        due(x.best(0), 8000);
        due(x.voyage(0, 0), 0);
        due(x.voyage(0, 1), 1);
        due(x.voyage(1, 0), 0);
        due(x.voyage(1, 1), 0);
    }

    /** CARGOES of price 16 are landed so late that nothing can be done behind them; one goes back (NONE: none does). */
    private static void alikeSets() {
        says("of alike ones that with the fewest CARGOES, then the first as a row of numbers");
        // Three prices, which CARGO goes back, and which one alone is the BEST.
        int[][] all = {{11, 6, 16, 1, 2}, {16, 11, 6, 2, 0}, {11, 16, 6, 2, 1}, {16, 16, 1, 2, 0}, {16, 1, 16, 1, 0},
            {1, 16, 16, 0, 1}, {11, 11, 11, NONE, 0}};
        for (int[] n : all) {
            Told x = new Told();
            x.terminal(0, 0, 100, 0);
            x.terminal(0, 0, 100, 0);
            x.ship(0, 1000, 1);
            x.way(0, 1, 1, false);
            x.terms(0, 700);
            for (int c = 0; c < 3; c++) {
                boolean back = n[3] == c;
                x.cargo(back ? 1 : 0, back ? 0 : 1, 0, back ? 9 : 0, n[c] == 16 ? 50 : 0, 60, 100, n[c]);
            }
            due(x.best(0), 100L * n[n[4]] - 100);
            for (int c = 0; c < 3; c++) {
                due(x.voyage(c, 0), n[4] == c ? 0 : NONE);
            }
        }
    }

    /** The row 1, 2, 0 goes nowhere without tons; 2, 0, 1 can be, too, and is ahead as a row of places, but costs more. */
    private static void worthBeforePlaces() {
        says("the rows of greatest WORTH together");
        Told x = new Told();
        x.terminal(0, 0, 100, 0);
        x.terminal(0, 0, 100, 0);
        x.ship(0, 1000, 1);
        x.way(0, 1, 1, false);
        x.terms(0, 700);
        x.cargo(0, 1, 50, 99, 0, 199, 100, 50);
        x.cargo(0, 1, 0, 99, 0, 199, 100, 50);
        x.cargo(1, 0, 0, 30, 0, 199, 100, 50);
        due(x.judge(0, 1, 2, 0, 0), 15_000 - 300);
        due(x.judge(0, 2, 0, 1, 0), 15_000 - 500);
        due(x.best(0), 15_000 - 300);
        int[] places = {2, 0, 1};
        for (int c = 0; c < 3; c++) {
            due(x.voyage(c, 1), places[c]);
        }
    }

    /** Three ships with two CARGOES each, which must be done in an order that is not that of their numbers. */
    private static void threeRows() {
        says("each has a row of CARGOES, done one behind the other");
        Told x = new Told();
        for (int t = 0; t < 6; t++) {
            x.terminal(0, 0, 100, 0);
        }
        x.terms(0, 700);
        for (int s = 0; s < 3; s++) {
            x.ship(2 * s, 1000, 1 + s);
            x.way(2 * s, 2 * s + 1, 5 + s, false);
        }
        for (int s = 2; s >= 0; s--) {
            x.cargo(2 * s + 1, 2 * s, 0, 99, 0, 99, 200, 100);
        }
        for (int s = 0; s < 3; s++) {
            x.cargo(2 * s, 2 * s + 1, 0, 9, 0, 99, 100, 100);
        }
        long sum = 0;
        for (int s = 0; s < 3; s++) {
            sum += 30_000 - 2 * 100 * (1 + s) * (5 + s);
        }
        due(x.best(0), sum);
        for (int s = 0; s < 3; s++) {
            due(x.voyage(2 - s, 0), s);
            due(x.voyage(2 - s, 1), 1);
            due(x.voyage(2 - s, 2), 2 + 5 + s);
            due(x.voyage(2 - s, 3), 2 + 5 + s + 2 + 5 + s);
            due(x.voyage(2 - s, 4), 20_000 - 100 * (1 + s) * (5 + s));
            due(x.voyage(3 + s, 0), s);
            due(x.voyage(3 + s, 1), 0);
            due(x.voyage(3 + s, 2), 0);
            due(x.voyage(3 + s, 3), 1 + 5 + s);
            due(x.voyage(3 + s, 4), 10_000 - 100 * (1 + s) * (5 + s));
        }
    }

    private static void latestBest() {
        says("Of a CARGO in the latest BEST; NOTHING (-2,000,000,000,000,000) without");
        Told x = fleet();
        due(x.voyage(0, 0), NOTHING);
        x.cargo(0, 1, 0, 99, 0, 99, 100, 50);
        due(x.voyage(0, 0), NOTHING);
        due(x.best(0), 4000);
        long[] want = {0, 0, 0, 11, 4000};
        for (int what = 0; what <= 4; what++) {
            due(x.voyage(0, what), want[what]);
        }
        due(x.voyage(0, 5), NOTHING);
        due(x.voyage(0, -1), NOTHING);
        due(x.voyage(1, 0), NOTHING);
        due(x.voyage(-1, 0), NOTHING);
        says("kept as the latest");
        x.cargo(1, 0, 0, 99, 0, 99, 100, 50);
        due(x.voyage(1, 0), NOTHING);
        due(x.best(2400), NONE);
        due(x.best(-1), NONE);
        due(x.voyage(0, 3), 11);
        due(x.voyage(1, 0), NOTHING);
        x.judge(0, 0, 1, NONE, 7);
        due(x.voyage(0, 2), 0);
        due(x.clear(), 2);
        due(x.voyage(0, 3), 11);
        x.way(0, 1, 20, false);
        due(x.voyage(0, 3), 11);
        says("IMAGES keep all but the latest BEST");
        x.image(0);
        x.cargo(1, 0, 0, 99, 0, 99, 100, 50);
        x.cargo(0, 1, 0, 99, 0, 99, 100, 60);
        due(x.best(3), 3000 + 4000);
        due(x.back(0), 0);
        due(x.count(6), 0);
        due(x.voyage(1, 2), 3);
        due(x.voyage(0, 1), 1);
        due(x.best(0), 0);
        due(x.voyage(0, 0), NOTHING);
    }

    private static void sixCargoes() {
        says("CARGOES, 6 at most: each has a row of CARGOES, done one behind the other");
        Told x = new Told();
        x.terminal(0, 0, 100, 0);
        x.terminal(0, 0, 100, 0);
        x.ship(0, 1000, 1);
        x.way(0, 1, 10, false);
        x.terms(0, 700);
        // Each CARGO has its own HOUR: the last one told is done first.
        for (int n = 0; n < 6; n++) {
            int hour = (5 - n) * 12;
            x.cargo(n % 2 == 1 ? 0 : 1, n % 2 == 1 ? 1 : 0, hour, hour, 0, 999, 100, 50);
        }
        due(x.best(0), 6 * 4000);
        for (int n = 0; n < 6; n++) {
            due(x.voyage(n, 0), 0);
            due(x.voyage(n, 1), 5 - n);
            due(x.voyage(n, 2), (5 - n) * 12);
            due(x.voyage(n, 3), (5 - n) * 12 + 11);
            due(x.voyage(n, 4), 4000);
        }
        due(x.voyage(6, 0), NOTHING);
        // An HOUR later the first one can't be done any more; the ship goes to the second one without tons.
        due(x.best(1), 5 * 4000 - 1000);
        due(x.voyage(5, 0), NONE);
        due(x.voyage(4, 1), 0);
        due(x.voyage(0, 1), 4);
        // A row that is told has three at most.
        due(x.judge(0, 5, 4, 3, 0), 12_000);
        due(x.judge(0, 5, 4, 2, 0), 12_000 - 1000);
        due(x.judge(0, 4, 5, NONE, 0), NOTHING);
    }

    // ---------------------------------------------------------------- images

    /** All kinds of calls that change something, but for those that change the TAPE, FAULT or the latest BEST alone. */
    private static Told.Call[] changes() {
        return new Told.Call[] {
            o -> o.terminal(5, 9, 3, 3), o -> o.ship(1, 5000, 7), o -> o.way(0, 1, 99, true), o -> o.way(0, 2, 1, false),
            o -> o.tide(0, 9), o -> o.sea(0, 9), o -> o.sea(1, 0), o -> o.slot(2, 0, 5, 500), o -> o.broken(0, 15, 70),
            o -> o.broken(1, 19, 70), o -> o.terms(100, 1), o -> o.terms(0, 1000), o -> o.order(0, WAIT, 900),
            o -> o.order(1, SAIL, 0), o -> o.order(2, LOAD, 9), o -> o.go(1), o -> o.go(7), o -> o.go(480), o -> o.heat(0, 500),
            o -> o.price(0, 99, 0), o -> o.force(6, 9, 0), o -> o.bill(1, 77), o -> o.settle(1, 1), o -> o.table(0, 3, 9, 9),
            o -> o.table(1, 1, 8, 8), o -> o.list(0, 9), o -> o.reading(0, 1, 39, 0, 0), o -> o.reading(1, 0, 9, 0, 0),
            o -> o.cargo(0, 1, 0, 99, 0, 99, 9, 9), o -> o.clear()};
    }

    private static void goneBackTo() {
        says("BACK to one all is as it was then");
        for (Told.Call change : changes()) {
            for (int k = 0; k <= 1; k++) {
                Told plain = midst();
                Told with = midst();
                with.image(k);
                due(with.tell(change) < 0 ? 1 : 0, 0);
                due(with.back(k), 0);
                due(with.status(), 0);
                sameAsPlain(plain, with);
            }
        }
    }

    /** A run that has been gone back in tells what one without tells, at once and later. */
    private static void sameAsPlain(Told plain, Told with) {
        due(picture(plain, true).equals(picture(with, true)) ? 1 : 0, 1);
        for (Told x : new Told[] {plain, with}) {
            x.go(1);
            x.order(0, WAIT, 0);
            x.slot(2, 1, 900, 901);
            x.broken(2, 900, 901);
            x.price(0, 11, 2000);
            x.force(0, 1, 2000);
            x.go(60);
        }
        due(picture(plain, true).equals(picture(with, true)) ? 1 : 0, 1);
        due(with.price(0, 1, 1), plain.price(0, 1, 1));
        due(with.force(0, 1, 1), plain.force(0, 1, 1));
        due(with.broken(0, 1, 1), plain.broken(0, 1, 1));
        due(with.heat(0, 700), plain.heat(0, 700));
        due(with.list(0, 7), plain.list(0, 7));
        due(with.bill(1, 7), plain.bill(1, 7));
        due(with.settle(1, 0), plain.settle(1, 0));
        due(with.best(0), plain.best(0));
        due(picture(plain, true).equals(picture(with, true)) ? 1 : 0, 1);
    }

    /** Other TERMINALS and SHIPS under the same numbers, then back; and the other way round. */
    private static void bornAnew() {
        says("BACK to one all is as it was then: other TERMINALS and SHIPS under the same numbers");
        Told x = new Told();
        due(x.image(0), 0);
        sixOfAll(x);
        Told plain = new Told();
        sixOfAll(plain);
        due(picture(plain, true).equals(picture(x, true)) ? 1 : 0, 1);
        due(x.image(1), 0);
        // Back to nothing: what is made anew has nothing of what was there.
        due(x.back(0), 0);
        for (int what = 0; what <= 7; what++) {
            due(x.count(what), 0);
        }
        Told fresh = new Told();
        for (Told y : new Told[] {x, fresh}) {
            otherSix(y);
        }
        due(picture(fresh, true).equals(picture(x, true)) ? 1 : 0, 1);
        for (int s = 0; s < 6; s++) {
            due(x.list(s, 0), 0);
        }
        for (Told y : new Told[] {x, fresh}) {
            y.go(2);
            y.way(0, 1, 6, false);
            y.go(3);
        }
        due(picture(fresh, true).equals(picture(x, true)) ? 1 : 0, 1);
        due(x.back(1), 0);
        due(picture(plain, true).equals(picture(x, true)) ? 1 : 0, 1);
        for (Told y : new Told[] {x, plain}) {
            y.go(12);
        }
        due(picture(plain, true).equals(picture(x, true)) ? 1 : 0, 1);
        for (int s = 0; s < 6; s++) {
            due(x.list(s, 0), s + 1);
        }
        for (Told y : new Told[] {x, plain}) {
            y.order(0, LOAD, 150);
            y.order(0, LAND, 900);
            y.order(2, SAIL, 3);
            y.go(40);
        }
        due(picture(plain, true).equals(picture(x, true)) ? 1 : 0, 1);
        // Of the LANDING that was under way no more tons could go.
        due(x.landing(0, 1), 1);
        due(x.landing(0, 2), 11);
        due(x.landing(0, 3), 11);
    }

    /** At sea, in the canal, drifting, with VAPOR, with a LANDING under way, with LISTS, at a CAP. */
    private static void sixOfAll(Told x) {
        for (int t = 0; t < 6; t++) {
            x.terminal(30_000, 30_100, t == 1 ? 30 : 400, t == 0 ? 9 : 30);
            x.heat(t, 600 + t);
        }
        for (int s = 0; s < 6; s++) {
            x.ship(s, s == 0 ? 10_000 : 1000 * (s + 1), s == 0 ? 1 : 4 * s);
            x.list(s, s + 1);
            x.table(s, 0, s, s);
            x.slot(s, s, 0, 2399);
        }
        x.terms(100, 5);
        x.sea(0, 5);
        x.tide(3, 5);
        x.way(0, 1, 4, false);
        x.way(2, 3, 8, true);
        x.way(3, 5, 2, true);
        x.way(4, 5, 300, false);
        x.order(0, LOAD, 900);
        x.order(1, LOAD, 21);
        x.order(1, LOAD, 40);
        x.order(1, LAND, 50);
        x.order(2, LOAD, 600);
        x.order(3, LOAD, 100);
        x.order(3, SAIL, 5);
        x.order(4, LOAD, 100);
        x.order(4, SAIL, 5);
        x.order(5, LOAD, 50);
        x.order(5, WAIT, 2000);
        x.broken(1, 0, 1);
        x.broken(1, 12, 30);
        x.go(16);
    }

    private static void otherSix(Told x) {
        for (int t = 0; t < 6; t++) {
            x.terminal(40_000, 90_000, 700 + t, 20);
        }
        for (int s = 0; s < 6; s++) {
            x.ship(5 - s, 12_345 + s, 9);
            x.slot(5 - s, s, 0, 99);
        }
        x.order(0, SAIL, 1);
        x.order(1, LOAD, 500);
        x.order(1, LAND, 20);
        x.order(2, LOAD, 500);
        x.order(4, SAIL, 0);
    }

    /** A ship in the canal, which goes on by another WAY, and a LANDING under way, with another one behind it. */
    private static void underWayGoneBackTo() {
        says("BACK to one all is as it was then: under way");
        Told x = new Told();
        for (int t = 0; t < 3; t++) {
            x.terminal(5000, 9000, 400, 30);
        }
        x.ship(0, 1000, 1);
        x.terms(0, 1000);
        x.way(0, 1, 4, true);
        x.way(1, 2, 9, false);
        for (int t = 0; t < 3; t++) {
            x.slot(t, 0, 0, 99);
        }
        x.order(0, LOAD, 100);
        x.order(0, SAIL, 1);
        x.order(0, SAIL, 2);
        x.go(3);
        x.image(0);
        x.go(8);
        due(x.of(0, WHERE), 2);
        due(x.back(0), 0);
        due(x.of(0, LEFT), 2);
        due(x.of(0, WHERE), 1);
        x.go(3);
        due(x.of(0, LEFT), 2);
        x.go(1);
        due(x.of(0, LEFT), 1);
        Told y = new Told();
        y.terminal(5000, 5000, 400, 30);
        y.terminal(0, 40, 10, 30);
        y.ship(0, 1000, 1);
        y.terms(0, 1000);
        y.way(0, 1, 1, false);
        y.slot(0, 0, 0, 99);
        y.slot(1, 0, 0, 99);
        y.order(0, LOAD, 100);
        y.order(0, SAIL, 1);
        y.order(0, LAND, 50);
        y.order(0, SAIL, 0);
        y.order(0, LAND, 5);
        y.go(6);
        due(y.store(1), 40);
        y.image(1);
        for (int n = 0; n < 2; n++) {
            y.go(n == 0 ? 10 : 1);
            due(y.count(4), n == 0 ? 2 : 1);
            due(y.landing(0, 2), 2);
            due(y.landing(0, 3), 5);
            due(y.landing(0, 4), 40);
            due(y.landing(1, 2), n == 0 ? 8 : NONE);
            due(y.back(1), 0);
            due(y.count(4), 0);
        }
    }

    private static void limitsGoneBackTo() {
        says("BACK to one all is as it was then: BOILS, LIMIT");
        Told x = new Told();
        x.terminal(5000, 5000, 4000, 30);
        x.ship(0, 1000, 1);
        x.slot(0, 0, 0, 99);
        x.terms(100, 500);
        x.sea(0, 9);
        x.order(0, LOAD, 200_000);
        x.go(16);
        due(x.of(0, VAPOR), 15);
        x.image(0);
        x.terms(0, 1);
        x.go(1);
        due(x.of(0, VAPOR), 0);
        x.back(0);
        due(x.of(0, VAPOR), 15);
        x.go(1);
        // 15 tons in 30 have PRESS 500; the sixteenth is VENTED.
        due(x.of(0, VAPOR), 15);
        due(x.book(0, 2), 1);
        says("BACK to one all is as it was then: TIDE, SEA");
        Told y = new Told();
        y.terminal(5000, 5000, 4, 7);
        y.ship(0, 1000, 1);
        y.slot(0, 0, 0, 99);
        y.tide(1, 1);
        y.order(0, LOAD, 100);
        y.image(0);
        y.tide(1, 0);
        y.tide(0, 1);
        y.go(2);
        due(y.of(0, GAS), 1);
        y.back(0);
        due(y.of(0, GAS), 0);
        y.go(1);
        due(y.of(0, GAS), 0);
        y.go(1);
        due(y.of(0, GAS), 1);
    }

    private static void fullGoneBackTo() {
        says("BACK to one all is as it was then: all that there is room for");
        Told x = fullWorld();
        Told plain = x.copy();
        due(x.image(1), 0);
        due(x.clear(), 6);
        due(x.go(100), plain.count(0) + 100);
        due(x.back(1), 0);
        due(picture(plain, true).equals(picture(x, true)) ? 1 : 0, 1);
        due(x.slot(0, 0, 2399, 2399), -5);
        due(x.broken(0, 0, 0), -5);
        due(x.price(0, 0, 0), -5);
        due(x.force(0, 0, 0), -5);
        due(x.reading(0, 0, 0, 0, 0), -5);
        due(x.cargo(0, 1, 0, 0, 0, 0, 1, 0), -5);
        due(x.terminal(0, 0, 1, 0), -5);
        due(x.ship(0, 1000, 1), -5);
        due(x.count(4), 60);
        due(x.landing(59, 4), 1);
    }

    /** As many of all but CONTRACTS and ORDERS as may be. */
    private static Told fullWorld() {
        Told x = new Told();
        for (int t = 0; t < 6; t++) {
            x.terminal(5000, 9000, 4000, 30);
            x.ship(t, 1000, 1);
        }
        x.terms(0, 1000);
        x.way(0, 1, 3, false);
        x.slot(0, 0, 0, 999);
        for (int n = 1; n < 60; n++) {
            x.slot(n % 6, n % 6, 1000 + n, 1000 + n);
        }
        for (int n = 0; n < 20; n++) {
            x.broken(n % 6, 1000 + n, 1000 + n);
            x.force(n, n, n);
        }
        x.order(0, LOAD, 500);
        x.go(1);
        for (int n = 0; n < 60; n++) {
            x.price(0, n, n);
            x.order(0, LAND, 1);
            x.go(1);
            x.reading(n, 0, n, 0, n);
        }
        for (int n = 0; n < 6; n++) {
            x.cargo(0, 1, 0, 900, 0, 900, 10 + n, 100);
        }
        return x;
    }

    private static void contractsGoneBackTo() {
        says("BACK to one all is as it was then: CONTRACTS");
        Told x = midst();
        x.image(1);
        due(contract(x, "pay 5"), 2);
        x.settle(1, 2);
        due(x.settled(1, 0), 5);
        x.back(1);
        due(x.count(5), 2);
        due(x.due(1, 2, 0, 0), NOTHING);
        due(x.settled(1, 0), NOTHING);
        due(contract(x, "pay 6"), 2);
        x.settle(1, 2);
        due(x.settled(1, 0), 6);
        due(x.image(0), 0);
        x.back(1);
        due(x.count(5), 2);
        due(contract(x, "pay 7"), 2);
        due(x.due(1, 2, 0, 0), 7);
        x.back(0);
        due(x.count(5), 3);
        due(x.due(1, 2, 0, 0), 6);
        due(x.settled(1, 0), 6);
    }

    private static void firstContractGoneBackTo() {
        says("BACK to one all is as it was then: the first CONTRACT");
        Told x = new Told();
        x.terminal(5000, 5000, 400, 30);
        x.ship(0, 1000, 1);
        x.slot(0, 0, 0, 99);
        x.order(0, LOAD, 100);
        x.order(0, LAND, 5);
        x.go(2);
        x.image(0);
        due(contract(x, "pay 5"), 0);
        x.image(1);
        x.back(0);
        due(x.due(0, 0, 0, 0), NOTHING);
        due(contract(x, "pay 6"), 0);
        due(x.due(0, 0, 0, 0), 6);
        x.back(1);
        due(x.due(0, 0, 0, 0), 5);
    }

    private static void imagesStay() {
        says("(IMAGES stay)");
        Told x = new Told();
        x.image(0);
        x.terminal(1, 1, 1, 1);
        x.image(1);
        x.terminal(2, 2, 2, 2);
        for (int n = 0; n < 3; n++) {
            due(x.back(1), 0);
            due(x.count(1), 1);
            due(x.terminal(3, 3, 3, 3), 1);
            due(x.back(0), 0);
            due(x.count(1), 0);
            due(x.terminal(4, 4, 4, 4), 0);
        }
        due(x.back(1), 0);
        due(x.store(0), 1);
        due(x.store(1), NONE);
        says("IMAGE k is kept: told anew, the latest");
        x.terminal(5, 5, 5, 5);
        due(x.image(1), 0);
        x.terminal(6, 6, 6, 6);
        due(x.back(1), 0);
        due(x.count(1), 2);
        due(x.store(1), 5);
        due(x.back(0), 0);
        due(x.count(1), 0);
        due(x.image(0), 0);
        due(x.back(1), 0);
        due(x.image(0), 0);
        due(x.back(0), 0);
        due(x.count(1), 2);
        says("IMAGES keep all but the TAPE, FAULT");
        feed(x, "pay 1 !");
        x.image(0);
        x.end(3);
        x.back(0);
        due(x.count(8), 3);
        due(x.contract(), -6);
        due(x.fault(), 3);
        x.back(0);
        due(x.count(8), 0);
        due(x.fault(), 3);
    }

    public static void main(String[] args) {
        ways();
        whereShipsAre();
        loading();
        landing();
        hoursForTons();
        tops();
        brokenHours();
        landingPastBrokenHours();
        endsByTheLast();
        boiledOnPaper();
        worths();
        rowsThatAreTold();
        firstThree();
        noneAtAll();
        alike();
        alikeOfTwo();
        alikeSets();
        worthBeforePlaces();
        threeRows();
        latestBest();
        sixCargoes();
        goneBackTo();
        bornAnew();
        underWayGoneBackTo();
        limitsGoneBackTo();
        fullGoneBackTo();
        contractsGoneBackTo();
        firstContractGoneBackTo();
        imagesStay();
        finish();
    }
}
