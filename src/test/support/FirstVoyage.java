public final class FirstVoyage {
    public static void main(String[] args) {
        ColdShips x = new ColdShips();
        int from = x.terminal(10000, 20000, 500, 12);        // store, cap, rate, depth
        int to = x.terminal(0, 20000, 400, 12);
        int ship = x.ship(from, 10000, 4);                   // where it is at first, cap, fuel
        x.way(from, to, 10, false);                          // ten hours, not through the canal
        x.slot(from, ship, 0, 99);                           // without a slot no ton goes
        x.slot(to, ship, 0, 200);
        x.order(ship, 1, 1000);                              // 1 load, 0 sail, 2 land, 3 wait
        x.order(ship, 0, to);
        x.order(ship, 2, 600);
        System.out.println("now: " + x.go(20));
        System.out.println("landed: " + x.landing(0, 4) + " tons, hours " + x.landing(0, 2) + " to " + x.landing(0, 3));

        x.price(0, 3, 0);                                    // from day 0 on, known from hour 0 on
        int contract = contract(x, "window 0 to 18; at 1; pay tons * price; fine late * 50 if late > 0");
        System.out.println("due: " + x.due(0, contract, 20, 0));
        x.settle(0, contract);
        System.out.println("settled: " + x.settled(0, 0));
        System.out.println("settled twice: " + x.settle(0, contract) + ", status " + x.status());
        System.out.println("a text that can't be: " + contract(x, "pay tons *") + ", fault at " + x.fault());

        x.cargo(from, to, 30, 60, 40, 99, 900, 20);          // loaded in 30 .. 60, landed in 40 .. 99, tons, price
        System.out.println("best: " + x.best(20) + ", by ship " + x.voyage(0, 0) + ", loading at " + x.voyage(0, 2));
        x.image(0);
        x.clear();
        x.back(0);
        System.out.println("cargoes: " + x.count(6));
    }

    /** A text comes on the tape twenty bytes at a time; end() cuts off what was fed too much. */
    private static int contract(ColdShips x, String text) {
        for (int at = 0; at < text.length(); at += 20) {
            x.feed(four(text, at), four(text, at + 4), four(text, at + 8), four(text, at + 12), four(text, at + 16));
        }
        x.end(text.length());
        return x.contract();
    }

    private static int four(String text, int at) {
        int four = 0;
        for (int n = at; n < at + 4; n++) {
            four = four << 8 | (n < text.length() ? text.charAt(n) : ' ');
        }
        return four;
    }
}
