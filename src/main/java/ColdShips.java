import java.util.Arrays;

/**
 * Ships that carry gas made liquid by cold, their terminals, contracts, gauges and voyages.
 * What each call promises stands in DOC.md; the words in capitals there are the names used here.
 */
public final class ColdShips {
    public static final int NONE = -1;

    private static final long NOTHING = -2_000_000_000_000_000L;

    private static final int BAD_NUMBER = -1;
    private static final int NO_SUCH = -2;
    private static final int CANT_BE = -3;
    private static final int TWICE = -4;
    private static final int NO_ROOM = -5;
    private static final int BAD_TEXT = -6;

    private static final int LAST_HOUR = 2399;
    private static final int HOURS_A_DAY = 24;
    private static final int DAYS = 100;
    private static final int TIDES = 25;
    private static final int MOST_TERMINALS = 6;
    private static final int MOST_SHIPS = 6;
    private static final int MOST_TONS = 200_000;
    private static final int MOST_STORE = 500_000;
    private static final int MOST_ORDERS = 20;
    private static final int MOST_ORDERS_IN_ALL = 400;
    private static final int MOST_CENTIMETRES = 5000;
    private static final int MOST_CARGOES = 6;
    private static final int MOST_CONTRACTS = 12;
    private static final int GAUGE_ROWS = 4;

    // The sorts of ORDERS.
    private static final int SAIL = 0;
    private static final int LOAD = 1;
    private static final int LAND = 2;
    private static final int WAIT = 3;

    // The lines of a SHIP's BOOK.
    private static final int LOADED = 0;
    private static final int BURNT = 1;
    private static final int VENTED = 2;
    private static final int LANDED = 3;
    private static final int BOOK_LINES = 4;

    // The columns of LANDINGS; the PARTS take six from PARTS on.
    private static final int SHIP = 0;
    private static final int TERMINAL = 1;
    private static final int FIRST = 2;
    private static final int LAST = 3;
    private static final int TONS = 4;
    private static final int PARTS = 5;
    private static final int BILL = 11;
    private static final int SETTLED_BY = 12;
    private static final int SETTLED_DUE = 13;
    private static final int SETTLED_WHEN = 14;
    private static final int LANDING_COLUMNS = 15;

    // The columns of PRICES.
    private static final int PRICE_DAY = 0;
    private static final int PRICE_VALUE = 1;
    private static final int PRICE_KNOWN = 2;
    private static final int PRICE_COLUMNS = 3;

    // The columns of READINGS.
    private static final int READ_LANDING = 0;
    private static final int READ_WHICH = 1;
    private static final int READ_CENTIMETRES = 2;
    private static final int READ_TRIM = 3;
    private static final int READ_KNOWN = 4;
    private static final int READING_COLUMNS = 5;

    // The columns of CARGOES.
    private static final int CARGO_FROM = 0;
    private static final int CARGO_TO = 1;
    private static final int LOAD_OPENS = 2;
    private static final int LOAD_CLOSES = 3;
    private static final int LAND_OPENS = 4;
    private static final int LAND_CLOSES = 5;
    private static final int CARGO_TONS = 6;
    private static final int CARGO_PRICE = 7;
    private static final int CARGO_COLUMNS = 8;

    // The words of a TEXT that stand for what is known of a LANDING.
    private static final int FACT_TONS = 0;
    private static final int FACT_BILLED = 1;
    private static final int FACT_HEAT = 2;
    private static final int FACT_LATE = 3;
    private static final int FACT_EARLY = 4;
    private static final int FACT_PRICE = 5;
    private static final int FACT_HOURS = 6;
    private static final int FACT_ELSEWHERE = 7;
    private static final int FACTS = 8;

    // The code of a CONTRACT: a cell of 0 or more is a NUMBER, -1 - fact a word, these the rest.
    private static final int ADD = -11;
    private static final int SUBTRACT = -12;
    private static final int MULTIPLY = -13;
    private static final int DIVIDE = -14;
    private static final int BELOW = -15;
    private static final int ABOVE = -16;
    private static final int ALIKE = -17;
    private static final int NOT = -18;
    private static final int OR = -19;
    private static final int AND = -20;
    private static final int IF = -21;
    private static final int PAY = -22;
    private static final int FINE = -23;

    private final World world = new World();
    private final World[] images = new World[2];
    private final Watch watch = new Watch(world);
    private final Reader reader = new Reader();
    private final Reckoner reckoner = new Reckoner(world);
    private final Planner planner = new Planner(world);
    private int refusal;

    public ColdShips() {
    }

    public int terminal(int store, int cap, int rate, int depth) {
        if (!within(cap, 0, MOST_STORE) || !within(store, 0, cap)
                || !within(rate, 1, 10_000) || !within(depth, 0, 30)) {
            return refuse(BAD_NUMBER);
        }
        if (world.terminalCount >= MOST_TERMINALS) {
            return refuse(NO_ROOM);
        }
        int number = world.terminalCount;
        world.terminals[number].begin(store, cap, rate, depth);
        world.terminalCount++;
        return accept(number);
    }

    public int ship(int terminal, int cap, int fuel) {
        if (!within(cap, 1000, MOST_TONS) || !within(fuel, 1, 50)) {
            return refuse(BAD_NUMBER);
        }
        if (!world.hasTerminal(terminal)) {
            return refuse(NO_SUCH);
        }
        if (world.shipCount >= MOST_SHIPS) {
            return refuse(NO_ROOM);
        }
        int number = world.shipCount;
        world.ships[number].begin(terminal, cap, fuel);
        world.shipCount++;
        return accept(number);
    }

    public int way(int a, int b, int hours, boolean canal) {
        if (!within(hours, 1, 400)) {
            return refuse(BAD_NUMBER);
        }
        if (!world.hasTerminal(a) || !world.hasTerminal(b)) {
            return refuse(NO_SUCH);
        }
        if (a == b) {
            return refuse(CANT_BE);
        }
        world.terminals[a].tellWay(b, hours, canal);
        world.terminals[b].tellWay(a, hours, canal);
        return accept(0);
    }

    public int tide(int rest, int more) {
        if (!within(rest, 0, TIDES - 1) || !within(more, 0, 9)) {
            return refuse(BAD_NUMBER);
        }
        world.tides[rest] = more;
        return accept(0);
    }

    public int sea(int day, int sea) {
        if (!within(day, 0, DAYS - 1) || !within(sea, 0, 9)) {
            return refuse(BAD_NUMBER);
        }
        world.seas[day] = sea;
        return accept(0);
    }

    public int slot(int terminal, int ship, int from, int to) {
        if (!isSpan(from, to)) {
            return refuse(BAD_NUMBER);
        }
        if (!world.hasTerminal(terminal) || !world.hasShip(ship)) {
            return refuse(NO_SUCH);
        }
        if (world.slots.meets(slotOwner(terminal, 0), slotOwner(terminal, MOST_SHIPS - 1), from, to)) {
            return refuse(CANT_BE);
        }
        return acceptOrFull(world.slots.add(slotOwner(terminal, ship), from, to));
    }

    public int broken(int terminal, int from, int to) {
        if (!isSpan(from, to)) {
            return refuse(BAD_NUMBER);
        }
        if (!world.hasTerminal(terminal)) {
            return refuse(NO_SUCH);
        }
        return acceptOrFull(world.breaks.add(terminal, from, to));
    }

    public int terms(int boils, int limit) {
        if (!within(boils, 0, 100) || !within(limit, 1, 1000)) {
            return refuse(BAD_NUMBER);
        }
        world.boils = boils;
        world.limit = limit;
        return accept(0);
    }

    public int order(int ship, int sort, int what) {
        if (!isOrder(sort, what)) {
            return refuse(BAD_NUMBER);
        }
        if (!world.hasShip(ship) || sort == SAIL && !world.hasTerminal(what)) {
            return refuse(NO_SUCH);
        }
        Ship told = world.ships[ship];
        if (told.orders >= MOST_ORDERS || world.ordersGiven >= MOST_ORDERS_IN_ALL) {
            return refuse(NO_ROOM);
        }
        told.addOrder(sort, what);
        world.ordersGiven++;
        return accept(told.orders);
    }

    public int go(int hours) {
        if (!within(hours, 1, 480) || world.now + hours > LAST_HOUR) {
            return refuse(BAD_NUMBER);
        }
        for (int n = 0; n < hours; n++) {
            watch.passHour();
        }
        return accept(world.now);
    }

    public int of(int ship, int what) {
        if (!world.hasShip(ship)) {
            return NONE;
        }
        Ship asked = world.ships[ship];
        switch (what) {
            case 0: return asked.where;
            case 1: return asked.left;
            case 2: return asked.tank.gas;
            case 3: return asked.tank.vapor;
            case 4: return asked.tank.warm;
            case 5: return asked.tank.press();
            case 6: return asked.orders;
            case 7: return asked.tonsLeft();
            case 8: return asked.tank.draft();
            case 9: return asked.drifting ? 1 : 0;
            default: return NONE;
        }
    }

    public int part(int ship, int terminal) {
        if (!world.hasShip(ship) || !world.hasTerminal(terminal)) {
            return NONE;
        }
        return world.ships[ship].tank.parts[terminal];
    }

    public long book(int ship, int what) {
        if (!world.hasShip(ship) || !within(what, 0, BOOK_LINES - 1)) {
            return NONE;
        }
        return world.ships[ship].book[what];
    }

    public int store(int terminal) {
        return world.hasTerminal(terminal) ? world.terminals[terminal].store : NONE;
    }

    public int landing(int landing, int what) {
        if (!world.landings.has(landing)) {
            return NONE;
        }
        switch (what) {
            case 0: return world.landings.number(landing, SHIP);
            case 1: return world.landings.number(landing, TERMINAL);
            case 2: return world.landings.number(landing, FIRST);
            case 3: return world.landings.number(landing, LAST);
            case 4: return world.landings.number(landing, TONS);
            case 5: return (int) world.heatOf(landing);
            case 6: return world.isSettled(landing) ? 1 : 0;
            default: return NONE;
        }
    }

    public int led(int landing, int terminal) {
        if (!world.landings.has(landing) || !world.hasTerminal(terminal)) {
            return NONE;
        }
        return world.landings.number(landing, PARTS + terminal);
    }

    public int heat(int terminal, int heat) {
        if (!within(heat, 500, 2000)) {
            return refuse(BAD_NUMBER);
        }
        if (!world.hasTerminal(terminal)) {
            return refuse(NO_SUCH);
        }
        int was = world.terminals[terminal].heat;
        world.terminals[terminal].heat = heat;
        return accept(was);
    }

    public int price(int day, int price, int known) {
        if (!within(day, 0, DAYS - 1) || !within(price, 0, 10_000) || !isHour(known)) {
            return refuse(BAD_NUMBER);
        }
        int row = world.prices.addRow();
        if (row == NONE) {
            return refuse(NO_ROOM);
        }
        world.prices.set(row, PRICE_DAY, day);
        world.prices.set(row, PRICE_VALUE, price);
        world.prices.set(row, PRICE_KNOWN, known);
        return accept(world.prices.size);
    }

    public int force(int from, int to, int known) {
        if (!isSpan(from, to) || !isHour(known)) {
            return refuse(BAD_NUMBER);
        }
        return acceptOrFull(world.forces.add(known, from, to));
    }

    public int bill(int landing, int tons) {
        if (!within(tons, 0, MOST_TONS)) {
            return refuse(BAD_NUMBER);
        }
        if (!world.landings.has(landing)) {
            return refuse(NO_SUCH);
        }
        if (world.landings.at(landing, BILL) != NONE) {
            return refuse(TWICE);
        }
        world.landings.set(landing, BILL, tons);
        return accept(0);
    }

    public int feed(int a, int b, int c, int d, int e) {
        if (!reader.hasRoom()) {
            return NONE;
        }
        reader.addFour(a);
        reader.addFour(b);
        reader.addFour(c);
        reader.addFour(d);
        reader.addFour(e);
        return reader.size;
    }

    public int end(int n) {
        if (!within(n, 0, reader.size)) {
            return NONE;
        }
        reader.size = n;
        return n;
    }

    public int contract() {
        boolean room = world.contractCount < MOST_CONTRACTS;
        // Without room the TEXT is not read, so that FAULT stays; the TAPE is empty then all the same.
        Contract made = room ? reader.readTape() : null;
        reader.emptyTape();
        if (made == null) {
            return refuse(room ? BAD_TEXT : NO_ROOM);
        }
        int number = world.contractCount;
        world.contracts[number] = made;
        world.contractCount++;
        return accept(number);
    }

    public int fault() {
        return reader.faultAt;
    }

    public long due(int landing, int contract, int known, int what) {
        if (!world.landings.has(landing) || !world.hasContract(contract) || !isHour(known)) {
            return NOTHING;
        }
        reckoner.reckon(landing, world.contracts[contract], known);
        switch (what) {
            case 0: return reckoner.pays - reckoner.fines;
            case 1: return reckoner.pays;
            case 2: return reckoner.fines;
            case 3: return reckoner.facts[FACT_LATE];
            case 4: return reckoner.facts[FACT_PRICE];
            default: return NOTHING;
        }
    }

    public int settle(int landing, int contract) {
        if (!world.landings.has(landing) || !world.hasContract(contract)) {
            return refuse(NO_SUCH);
        }
        if (world.isSettled(landing)) {
            return refuse(TWICE);
        }
        reckoner.reckon(landing, world.contracts[contract], world.now);
        world.landings.set(landing, SETTLED_BY, contract);
        world.landings.set(landing, SETTLED_DUE, reckoner.pays - reckoner.fines);
        world.landings.set(landing, SETTLED_WHEN, world.now);
        return accept(0);
    }

    public long settled(int landing, int what) {
        if (!world.landings.has(landing) || !world.isSettled(landing)) {
            return NOTHING;
        }
        switch (what) {
            case 0: return world.landings.at(landing, SETTLED_DUE);
            case 1: return world.landings.at(landing, SETTLED_BY);
            case 2: return world.landings.at(landing, SETTLED_WHEN);
            default: return NOTHING;
        }
    }

    public int table(int ship, int k, int centimetres, int tons) {
        if (!within(k, 0, GAUGE_ROWS - 1) || !within(centimetres, 0, MOST_CENTIMETRES)
                || !within(tons, 0, MOST_TONS)) {
            return refuse(BAD_NUMBER);
        }
        if (!world.hasShip(ship)) {
            return refuse(NO_SUCH);
        }
        world.ships[ship].gaugeCentimetres[k] = centimetres;
        world.ships[ship].gaugeTons[k] = tons;
        return accept(0);
    }

    public int list(int ship, int list) {
        if (!within(list, -50, 50)) {
            return refuse(BAD_NUMBER);
        }
        if (!world.hasShip(ship)) {
            return refuse(NO_SUCH);
        }
        int was = world.ships[ship].list;
        world.ships[ship].list = list;
        return accept(was);
    }

    public int reading(int landing, int which, int centimetres, int trim, int known) {
        if (!within(which, 0, 1) || !within(centimetres, 0, MOST_CENTIMETRES)
                || !within(trim, -20, 20) || !isHour(known)) {
            return refuse(BAD_NUMBER);
        }
        if (!world.landings.has(landing)) {
            return refuse(NO_SUCH);
        }
        int row = world.readings.addRow();
        if (row == NONE) {
            return refuse(NO_ROOM);
        }
        world.readings.set(row, READ_LANDING, landing);
        world.readings.set(row, READ_WHICH, which);
        world.readings.set(row, READ_CENTIMETRES, centimetres);
        world.readings.set(row, READ_TRIM, trim);
        world.readings.set(row, READ_KNOWN, known);
        return accept(world.readings.size);
    }

    public long gauged(int landing, int known, int what) {
        if (!world.landings.has(landing) || !isHour(known)) {
            return NOTHING;
        }
        switch (what) {
            case 0: return reckoner.tonsRead(landing, 0, known);
            case 1: return reckoner.tonsRead(landing, 1, known);
            case 2: return reckoner.tonsGauged(landing, known);
            case 3: return reckoner.claimOf(landing, known);
            default: return NOTHING;
        }
    }

    public int cargo(int from, int to, int a, int b, int c, int d, int tons, int price) {
        if (!isSpan(a, b) || !isSpan(c, d) || !within(tons, 1, MOST_TONS) || !within(price, 0, 1000)) {
            return refuse(BAD_NUMBER);
        }
        if (!world.hasTerminal(from) || !world.hasTerminal(to)) {
            return refuse(NO_SUCH);
        }
        if (from == to) {
            return refuse(CANT_BE);
        }
        int row = world.cargoes.addRow();
        if (row == NONE) {
            return refuse(NO_ROOM);
        }
        world.cargoes.set(row, CARGO_FROM, from);
        world.cargoes.set(row, CARGO_TO, to);
        world.cargoes.set(row, LOAD_OPENS, a);
        world.cargoes.set(row, LOAD_CLOSES, b);
        world.cargoes.set(row, LAND_OPENS, c);
        world.cargoes.set(row, LAND_CLOSES, d);
        world.cargoes.set(row, CARGO_TONS, tons);
        world.cargoes.set(row, CARGO_PRICE, price);
        return accept(world.cargoes.size);
    }

    public int clear() {
        int were = world.cargoes.size;
        world.cargoes.size = 0;
        return were;
    }

    public long best(int from) {
        return isHour(from) ? planner.findBest(from) : NONE;
    }

    public long voyage(int cargo, int what) {
        if (!within(cargo, 0, planner.planned - 1)) {
            return NOTHING;
        }
        if (what == 0) {
            return planner.shipOf[cargo];
        }
        if (planner.shipOf[cargo] == NONE) {
            return NOTHING;
        }
        switch (what) {
            case 1: return planner.placeOf[cargo];
            case 2: return planner.loadOf[cargo];
            case 3: return planner.landOf[cargo];
            case 4: return planner.worthOf[cargo];
            default: return NOTHING;
        }
    }

    public long judge(int ship, int a, int b, int c, int from) {
        if (!planner.sails(ship) || !isHour(from)) {
            return NOTHING;
        }
        return planner.worthOfRow(ship, a, b, c, from);
    }

    public int image(int k) {
        if (!within(k, 0, images.length - 1)) {
            return refuse(BAD_NUMBER);
        }
        if (images[k] == null) {
            images[k] = new World();
        }
        images[k].copyFrom(world);
        return accept(0);
    }

    public int back(int k) {
        if (!within(k, 0, images.length - 1)) {
            return refuse(BAD_NUMBER);
        }
        if (images[k] == null) {
            return refuse(NO_SUCH);
        }
        world.copyFrom(images[k]);
        return accept(0);
    }

    public int count(int what) {
        switch (what) {
            case 0: return world.now;
            case 1: return world.terminalCount;
            case 2: return world.shipCount;
            case 3: return world.slots.size;
            case 4: return world.landings.size;
            case 5: return world.contractCount;
            case 6: return world.cargoes.size;
            case 7: return world.readings.size;
            case 8: return reader.size;
            default: return NONE;
        }
    }

    public int status() {
        return refusal;
    }

    private int refuse(int why) {
        refusal = why;
        return why;
    }

    private int accept(int answer) {
        refusal = 0;
        return answer;
    }

    private int acceptOrFull(int size) {
        return size == NONE ? refuse(NO_ROOM) : accept(size);
    }

    private static boolean within(int number, int least, int most) {
        return number >= least && number <= most;
    }

    private static boolean isHour(int hour) {
        return within(hour, 0, LAST_HOUR);
    }

    private static boolean isSpan(int from, int to) {
        return isHour(from) && isHour(to) && from <= to;
    }

    private static boolean isOrder(int sort, int what) {
        switch (sort) {
            case SAIL: return true;
            case LOAD:
            case LAND: return within(what, 1, MOST_TONS);
            case WAIT: return isHour(what);
            default: return false;
        }
    }

    /** A SLOT belongs to a TERMINAL and a SHIP at once: the SHIPS of one TERMINAL are neighbours. */
    private static int slotOwner(int terminal, int ship) {
        return terminal * MOST_SHIPS + ship;
    }

    /** A table of numbers that has room for so many rows, made once. */
    private static final class Rows {
        private final int width;
        private final long[] cells;
        private int size;

        Rows(int most, int columns) {
            width = Math.max(1, columns);
            cells = new long[Math.max(0, most) * width];
        }

        boolean has(int row) {
            return row >= 0 && row < size;
        }

        /** The number of a new row full of zeros, NONE without room for it. */
        int addRow() {
            int begin = size * width;
            if (begin + width > cells.length) {
                return NONE;
            }
            Arrays.fill(cells, begin, begin + width, 0L);
            return size++;
        }

        long at(int row, int column) {
            boolean there = row >= 0 && row < size && column >= 0 && column < width;
            return there ? cells[row * width + column] : 0L;
        }

        int number(int row, int column) {
            return (int) at(row, column);
        }

        void set(int row, int column, long value) {
            if (has(row) && column >= 0 && column < width) {
                cells[row * width + column] = value;
            }
        }

        void copyFrom(Rows other) {
            int used = other.size * other.width;
            if (other.width == width && used <= cells.length) {
                System.arraycopy(other.cells, 0, cells, 0, used);
                size = other.size;
            }
        }
    }

    /**
     * Spans of HOURS, both ends with them, each with an owner; asked for the owners from low to high.
     * They are kept in the order of their beginnings, so that one look through them passes the HOURS in turn.
     */
    private static final class Spans {
        private final int[] owners;
        private final int[] begins;
        private final int[] ends;
        private int size;

        Spans(int most) {
            int room = Math.max(0, most);
            owners = new int[room];
            begins = new int[room];
            ends = new int[room];
        }

        /** How many there are then, NONE without room. */
        int add(int owner, int from, int to) {
            if (size >= owners.length) {
                return NONE;
            }
            int place = size;
            for (; place > 0 && begins[place - 1] > from; place--) {
                owners[place] = owners[place - 1];
                begins[place] = begins[place - 1];
                ends[place] = ends[place - 1];
            }
            owners[place] = owner;
            begins[place] = from;
            ends[place] = to;
            size++;
            return size;
        }

        boolean meets(int low, int high, int from, int to) {
            for (int n = 0; n < size && begins[n] <= to; n++) {
                if (owners[n] >= low && owners[n] <= high && ends[n] >= from) {
                    return true;
                }
            }
            return false;
        }

        /** How many HOURS from first to last lie in no span. */
        int freeHours(int low, int high, int first, int last) {
            int free = Math.max(0, last - first + 1);
            int hour = first;
            for (int n = 0; n < size && begins[n] <= last; n++) {
                if (owners[n] >= low && owners[n] <= high && ends[n] >= hour && hour <= last) {
                    int end = Math.min(ends[n], last);
                    free -= end - Math.max(begins[n], hour) + 1;
                    hour = end + 1;
                }
            }
            return free;
        }

        /** The HOUR behind so many free ones from begin on, NONE if they don't end by the last HOUR. */
        int hourBehind(int low, int high, int begin, int hours) {
            int left = hours;
            int hour = begin;
            for (int n = 0; n < size && begins[n] - hour < left; n++) {
                if (owners[n] >= low && owners[n] <= high && ends[n] >= hour) {
                    left -= Math.max(0, begins[n] - hour);
                    hour = ends[n] + 1;
                }
            }
            return hour + left <= LAST_HOUR + 1 ? hour + left : NONE;
        }

        void copyFrom(Spans other) {
            if (other.size <= owners.length) {
                System.arraycopy(other.owners, 0, owners, 0, other.size);
                System.arraycopy(other.begins, 0, begins, 0, other.size);
                System.arraycopy(other.ends, 0, ends, 0, other.size);
                size = other.size;
            }
        }
    }

    /** A TERMINAL with its WAYS to the others (0 HOURS: none). */
    private static final class Terminal {
        private int store;
        private int cap;
        private int rate = 1;
        private int depth;
        private int heat;
        private final int[] wayHours = new int[MOST_TERMINALS];
        /** HOURS left at which a SHIP needs a TURN; 0: the CANAL is not on the WAY. */
        private final int[] wayHalf = new int[MOST_TERMINALS];

        void begin(int tons, int most, int anHour, int deep) {
            store = tons;
            cap = most;
            rate = Math.max(1, anHour);
            depth = deep;
            heat = 1000;
            Arrays.fill(wayHours, 0);
        }

        void tellWay(int to, int hours, boolean canal) {
            if (within(to, 0, MOST_TERMINALS - 1)) {
                wayHours[to] = hours;
                wayHalf[to] = canal ? hours / 2 : 0;
            }
        }

        int hoursFor(int tons) {
            return (tons + rate - 1) / rate;
        }

        void copyFrom(Terminal other) {
            store = other.store;
            cap = other.cap;
            rate = other.rate;
            depth = other.depth;
            heat = other.heat;
            System.arraycopy(other.wayHours, 0, wayHours, 0, MOST_TERMINALS);
            System.arraycopy(other.wayHalf, 0, wayHalf, 0, MOST_TERMINALS);
        }
    }

    /** What a SHIP carries: GAS with its PARTS, VAPOR and WARM. */
    private static final class Tank {
        private static final int WARMEST = 1800;

        private int cap = 1000;
        private int gas;
        private int vapor;
        private int warm;
        private final int[] parts = new int[MOST_TERMINALS];
        /** What each PART gave when tons left the GAS last. */
        private final int[] given = new int[MOST_TERMINALS];
        private final long[] rests = new long[MOST_TERMINALS];

        void begin(int most) {
            cap = Math.max(1000, most);
            gas = 0;
            vapor = 0;
            warm = WARMEST;
            Arrays.fill(parts, 0);
        }

        int heel() {
            return cap * 2 / 100;
        }

        int top() {
            return cap * 98 / 100;
        }

        int draft() {
            return 8 + 8 * gas / cap;
        }

        int press() {
            return (int) (vapor * 1000L / space());
        }

        void boil(int hundredThousandths) {
            evaporate((int) ((long) gas * hundredThousandths / 100_000));
        }

        void warmOrCool() {
            if (gas < heel()) {
                warm = Math.min(WARMEST, warm + 5);
            } else if (warm > 0) {
                int less = Math.min(20, warm);
                warm -= less;
                evaporate((int) Math.min(gas, (long) less * cap / 100_000));
            }
        }

        /** Burns VAPOR, then GAS: how many tons there were to burn. */
        int burn(int tons) {
            int ofVapor = Math.min(tons, vapor);
            vapor -= ofVapor;
            int ofGas = Math.min(tons - ofVapor, gas);
            takeGas(ofGas);
            return ofVapor + ofGas;
        }

        void fill(int terminal, int tons) {
            gas += tons;
            parts[terminal] += tons;
        }

        /** Vents till PRESS is not above the LIMIT: how many tons. */
        int vent(int limit) {
            int most = (int) (((limit + 1L) * space() - 1) / 1000);
            int vented = Math.max(0, vapor - most);
            vapor -= vented;
            return vented;
        }

        /** Tons leave the GAS; if there are any, what each PART gave is found in given. */
        void takeGas(int tons) {
            if (tons <= 0 || tons > gas) {
                return;
            }
            int left = tons;
            for (int t = 0; t < MOST_TERMINALS; t++) {
                long share = (long) tons * parts[t];
                given[t] = (int) (share / gas);
                rests[t] = share % gas;
                left -= given[t];
            }
            giveByRests(left);
            for (int t = 0; t < MOST_TERMINALS; t++) {
                parts[t] -= given[t];
            }
            gas -= tons;
        }

        void copyFrom(Tank other) {
            cap = other.cap;
            gas = other.gas;
            vapor = other.vapor;
            warm = other.warm;
            System.arraycopy(other.parts, 0, parts, 0, MOST_TERMINALS);
        }

        private void giveByRests(int left) {
            for (int round = 0; round < left && round < MOST_TERMINALS; round++) {
                int greatest = 0;
                for (int t = 1; t < MOST_TERMINALS; t++) {
                    if (rests[t] > rests[greatest]) {
                        greatest = t;
                    }
                }
                given[greatest]++;
                rests[greatest] = NONE;
            }
        }

        private void evaporate(int tons) {
            takeGas(tons);
            vapor += tons;
        }

        /** Never 0: the hundredth of CAP is 10 at least. */
        private int space() {
            return Math.max(1, cap - gas + cap / 100);
        }
    }

    /** A SHIP: where it is, its ORDERS, its BOOK, the LANDING under way, its gauge. */
    private static final class Ship {
        private final Tank tank = new Tank();
        private int fuel;
        private int where;
        private int left;
        /** HOURS left at which it needs a TURN, by the WAY as it was when the SHIP left. */
        private int half;
        private boolean drifting;
        private int orders;
        private final int[] orderSorts = new int[MOST_ORDERS];
        private final int[] orderWhats = new int[MOST_ORDERS];
        private final long[] book = new long[BOOK_LINES];
        private int landFirst;
        private int landLast;
        private int landTons;
        private final int[] landParts = new int[MOST_TERMINALS];
        private int list;
        private final int[] gaugeCentimetres = new int[GAUGE_ROWS];
        private final int[] gaugeTons = new int[GAUGE_ROWS];

        void begin(int terminal, int cap, int anHour) {
            tank.begin(cap);
            fuel = anHour;
            where = terminal;
            left = 0;
            half = 0;
            drifting = false;
            orders = 0;
            list = 0;
            Arrays.fill(book, 0L);
            Arrays.fill(gaugeCentimetres, NONE);
            forgetLanding();
        }

        void addOrder(int sort, int what) {
            if (orders < MOST_ORDERS) {
                orderSorts[orders] = sort;
                orderWhats[orders] = what;
                orders++;
            }
        }

        void endOrder() {
            if (orders > 0) {
                orders--;
                System.arraycopy(orderSorts, 1, orderSorts, 0, orders);
                System.arraycopy(orderWhats, 1, orderWhats, 0, orders);
            }
        }

        int tonsLeft() {
            boolean ofTons = orders > 0 && (orderSorts[0] == LOAD || orderSorts[0] == LAND);
            return ofTons ? orderWhats[0] : 0;
        }

        void burnFuel(int tons) {
            int burnt = tank.burn(tons);
            drifting = burnt < tons;
            book[BURNT] += burnt;
        }

        /** Tons go ashore in an HOUR as a piece of the LANDING under way. */
        void putAshore(int tons, int hour) {
            tank.takeGas(tons);
            for (int t = 0; t < MOST_TERMINALS; t++) {
                landParts[t] += tank.given[t];
            }
            if (landTons == 0) {
                landFirst = hour;
            }
            landLast = hour;
            landTons += tons;
            book[LANDED] += tons;
        }

        void forgetLanding() {
            landTons = 0;
            Arrays.fill(landParts, 0);
        }

        boolean gaugeCounts() {
            for (int k = 0; k < GAUGE_ROWS; k++) {
                if (gaugeCentimetres[k] == NONE) {
                    return false;
                }
                if (k > 0 && (gaugeCentimetres[k] <= gaugeCentimetres[k - 1] || gaugeTons[k] < gaugeTons[k - 1])) {
                    return false;
                }
            }
            return true;
        }

        long tonsAt(int centimetres) {
            if (centimetres <= gaugeCentimetres[0]) {
                return gaugeTons[0];
            }
            for (int k = 1; k < GAUGE_ROWS; k++) {
                int wide = gaugeCentimetres[k] - gaugeCentimetres[k - 1];
                if (centimetres < gaugeCentimetres[k] && wide > 0) {
                    long more = gaugeTons[k] - gaugeTons[k - 1];
                    return gaugeTons[k - 1] + more * (centimetres - gaugeCentimetres[k - 1]) / wide;
                }
            }
            return gaugeTons[GAUGE_ROWS - 1];
        }

        void copyFrom(Ship other) {
            tank.copyFrom(other.tank);
            fuel = other.fuel;
            where = other.where;
            left = other.left;
            half = other.half;
            drifting = other.drifting;
            orders = other.orders;
            list = other.list;
            landFirst = other.landFirst;
            landLast = other.landLast;
            landTons = other.landTons;
            System.arraycopy(other.orderSorts, 0, orderSorts, 0, MOST_ORDERS);
            System.arraycopy(other.orderWhats, 0, orderWhats, 0, MOST_ORDERS);
            System.arraycopy(other.book, 0, book, 0, BOOK_LINES);
            System.arraycopy(other.landParts, 0, landParts, 0, MOST_TERMINALS);
            System.arraycopy(other.gaugeCentimetres, 0, gaugeCentimetres, 0, GAUGE_ROWS);
            System.arraycopy(other.gaugeTons, 0, gaugeTons, 0, GAUGE_ROWS);
        }
    }

    /** All that an IMAGE keeps. */
    private static final class World {
        private int now;
        private int boils = 10;
        private int limit = 700;
        private int ordersGiven;
        private int terminalCount;
        private int shipCount;
        private int contractCount;
        private final int[] tides = new int[TIDES];
        private final int[] seas = new int[DAYS];
        private final Terminal[] terminals = new Terminal[MOST_TERMINALS];
        private final Ship[] ships = new Ship[MOST_SHIPS];
        /** They never change once they are made: an IMAGE may share them. */
        private final Contract[] contracts = new Contract[MOST_CONTRACTS];
        private final Spans slots = new Spans(60);
        private final Spans breaks = new Spans(20);
        /** Their owner is the HOUR from which they are known. */
        private final Spans forces = new Spans(20);
        private final Rows prices = new Rows(60, PRICE_COLUMNS);
        private final Rows readings = new Rows(60, READING_COLUMNS);
        private final Rows landings = new Rows(60, LANDING_COLUMNS);
        private final Rows cargoes = new Rows(MOST_CARGOES, CARGO_COLUMNS);

        World() {
            for (int t = 0; t < MOST_TERMINALS; t++) {
                terminals[t] = new Terminal();
            }
            for (int s = 0; s < MOST_SHIPS; s++) {
                ships[s] = new Ship();
            }
        }

        boolean hasTerminal(int terminal) {
            return terminal >= 0 && terminal < terminalCount;
        }

        boolean hasShip(int ship) {
            return ship >= 0 && ship < shipCount;
        }

        boolean hasContract(int contract) {
            return contract >= 0 && contract < contractCount && contracts[contract] != null;
        }

        boolean isSettled(int landing) {
            return landings.at(landing, SETTLED_BY) != NONE;
        }

        /** HOURS of the WAY, 0 from a TERMINAL to itself, NONE without a WAY. */
        int hoursBetween(int from, int to) {
            if (!hasTerminal(from) || !hasTerminal(to)) {
                return NONE;
            }
            if (from == to) {
                return 0;
            }
            int hours = terminals[from].wayHours[to];
            return hours > 0 ? hours : NONE;
        }

        long heatOf(int landing) {
            long tons = landings.at(landing, TONS);
            if (tons <= 0) {
                return 0;
            }
            long sum = 0;
            for (int t = 0; t < MOST_TERMINALS; t++) {
                sum += landings.at(landing, PARTS + t) * terminals[t].heat;
            }
            return sum / tons;
        }

        long billedOf(int landing) {
            long told = landings.at(landing, BILL);
            return told != NONE ? told : landings.at(landing, TONS);
        }

        /** The price of the DAY of a LANDING's last HOUR, as known. */
        long priceOf(int landing, int known) {
            long day = landings.at(landing, LAST) / HOURS_A_DAY;
            long latest = NONE;
            long price = 0;
            for (int n = 0; n < prices.size; n++) {
                long from = prices.at(n, PRICE_DAY);
                if (from <= day && from >= latest && prices.at(n, PRICE_KNOWN) <= known) {
                    latest = from;
                    price = prices.at(n, PRICE_VALUE);
                }
            }
            return price;
        }

        void copyFrom(World other) {
            now = other.now;
            boils = other.boils;
            limit = other.limit;
            ordersGiven = other.ordersGiven;
            terminalCount = other.terminalCount;
            shipCount = other.shipCount;
            contractCount = other.contractCount;
            System.arraycopy(other.tides, 0, tides, 0, TIDES);
            System.arraycopy(other.seas, 0, seas, 0, DAYS);
            for (int c = 0; c < MOST_CONTRACTS; c++) {
                contracts[c] = other.contracts[c];
            }
            for (int t = 0; t < terminalCount; t++) {
                terminals[t].copyFrom(other.terminals[t]);
            }
            for (int s = 0; s < shipCount; s++) {
                ships[s].copyFrom(other.ships[s]);
            }
            slots.copyFrom(other.slots);
            breaks.copyFrom(other.breaks);
            forces.copyFrom(other.forces);
            prices.copyFrom(other.prices);
            readings.copyFrom(other.readings);
            landings.copyFrom(other.landings);
            cargoes.copyFrom(other.cargoes);
        }
    }

    /** Lets HOURS go by. */
    private static final class Watch {
        private final World world;
        private int hour;
        private int sea;
        private boolean turnTaken;

        Watch(World world) {
            this.world = world;
        }

        void passHour() {
            if (!isHour(world.now)) {
                return;
            }
            hour = world.now;
            sea = world.seas[hour / HOURS_A_DAY];
            turnTaken = false;
            for (int s = 0; s < world.shipCount; s++) {
                passShip(s);
            }
            world.now++;
        }

        private void passShip(int number) {
            Ship ship = world.ships[number];
            boolean atSea = ship.left > 0;
            ship.tank.boil(world.boils + sea);
            ship.tank.warmOrCool();
            ship.burnFuel(atSea ? ship.fuel : ship.fuel / 4);
            int sort = ship.orders > 0 ? ship.orderSorts[0] : NONE;
            if (sort == SAIL) {
                sail(ship);
            } else if (sort == LOAD && tonsMayGo(number, ship)) {
                load(ship);
            } else if (sort == LAND && tonsMayGo(number, ship)) {
                land(number, ship);
            } else if (sort == WAIT && hour >= ship.orderWhats[0]) {
                ship.endOrder();
            }
            ship.book[VENTED] += ship.tank.vent(world.limit);
        }

        private void sail(Ship ship) {
            int to = ship.orderWhats[0];
            if (ship.left == 0) {
                int hours = world.hoursBetween(ship.where, to);
                if (hours == 0) {
                    ship.endOrder();
                }
                if (hours <= 0) {
                    return;
                }
                ship.half = world.terminals[ship.where].wayHalf[to];
                ship.left = hours;
                ship.where = to;
            }
            boolean held = ship.drifting || sea > 6 && hour % 2 == 1;
            if (held || ship.left == ship.half && !takesTurn()) {
                return;
            }
            ship.left--;
            if (ship.left == 0) {
                ship.endOrder();
            }
        }

        private boolean takesTurn() {
            int rest = hour % HOURS_A_DAY;
            if (turnTaken || rest != 6 && rest != 12 && rest != 18) {
                return false;
            }
            turnTaken = true;
            return true;
        }

        private boolean tonsMayGo(int number, Ship ship) {
            int where = ship.where;
            if (ship.left > 0 || !world.hasTerminal(where)) {
                return false;
            }
            int owner = slotOwner(where, number);
            int deep = world.terminals[where].depth + world.tides[hour % TIDES];
            return deep >= ship.tank.draft()
                    && world.slots.meets(owner, owner, hour, hour)
                    && !world.breaks.meets(where, where, hour, hour);
        }

        private void load(Ship ship) {
            Terminal from = world.terminals[ship.where];
            int rate = ship.tank.warm > 200 ? Math.max(1, from.rate / 4) : from.rate;
            int room = Math.max(0, ship.tank.top() - ship.tank.gas);
            int tons = Math.min(Math.min(rate, ship.orderWhats[0]), Math.min(from.store, room));
            from.store -= tons;
            ship.tank.fill(ship.where, tons);
            ship.book[LOADED] += tons;
            ship.orderWhats[0] -= tons;
            if (tons == 0 || ship.orderWhats[0] == 0) {
                ship.endOrder();
            }
        }

        private void land(int number, Ship ship) {
            Terminal to = world.terminals[ship.where];
            int above = Math.max(0, ship.tank.gas - ship.tank.heel());
            int room = Math.max(0, to.cap - to.store);
            int tons = Math.min(Math.min(to.rate, ship.orderWhats[0]), Math.min(above, room));
            if (tons > 0) {
                to.store += tons;
                ship.putAshore(tons, hour);
                ship.orderWhats[0] -= tons;
            }
            if (tons == 0 || ship.orderWhats[0] == 0) {
                keepLanding(number, ship);
                ship.forgetLanding();
                ship.endOrder();
            }
        }

        private void keepLanding(int number, Ship ship) {
            int row = ship.landTons > 0 ? world.landings.addRow() : NONE;
            if (row == NONE) {
                return;
            }
            world.landings.set(row, SHIP, number);
            world.landings.set(row, TERMINAL, ship.where);
            world.landings.set(row, FIRST, ship.landFirst);
            world.landings.set(row, LAST, ship.landLast);
            world.landings.set(row, TONS, ship.landTons);
            for (int t = 0; t < MOST_TERMINALS; t++) {
                world.landings.set(row, PARTS + t, ship.landParts[t]);
            }
            world.landings.set(row, BILL, NONE);
            world.landings.set(row, SETTLED_BY, NONE);
        }
    }

    /** A TEXT that was read: its window, its place, and the code of its "pay" and "fine" CLAUSES. */
    private static final class Contract {
        private final int[] code;
        /** Where each CLAUSE's code begins, and behind these where the last one's ends. */
        private final int[] starts;
        private final int windowFrom;
        private final int windowTo;
        private final int place;

        Contract(int[] code, int[] starts, int windowFrom, int windowTo, int place) {
            this.code = code;
            this.starts = starts;
            this.windowFrom = windowFrom;
            this.windowTo = windowTo;
            this.place = place;
        }
    }

    /** Holds the TAPE and reads it as a CONTRACT. */
    private static final class Reader {
        private static final int MOST_BYTES = 400;
        private static final int BYTES_A_FEED = 20;
        private static final int MOST_CLAUSES = 12;
        private static final int MOST_LEAVES = 50;
        private static final int MOST_BRACKETS = 8;
        private static final int MOST_NUMBER = 100_000;
        private static final int NO_LEAF = -1000;

        // The kinds of TOKENS.
        private static final int END = 0;
        private static final int WORD = 1;
        private static final int DIGITS = 2;
        private static final int SIGN = 3;

        private final char[] tape = new char[MOST_BYTES];
        private int size;
        private int faultAt = NONE;
        /** Where the TOKEN begins, what it is, and where the next one is looked for. */
        private int place;
        private int kind;
        private int behind;
        private int value;
        private final int[] code = new int[MOST_BYTES];
        private int cells;
        private final int[] starts = new int[MOST_CLAUSES + 1];
        private int sums;
        private int leaves;
        private int brackets;
        private int windowFrom;
        private int windowTo;
        private int wantedPlace;

        boolean hasRoom() {
            return size + BYTES_A_FEED <= MOST_BYTES;
        }

        void addFour(int number) {
            for (int shift = 24; shift >= 0 && size < MOST_BYTES; shift -= 8) {
                tape[size] = (char) (number >>> shift & 255);
                size++;
            }
        }

        void emptyTape() {
            size = 0;
        }

        /** The CONTRACT, null if there is a FAULT. */
        Contract readTape() {
            behind = 0;
            cells = 0;
            sums = 0;
            leaves = 0;
            brackets = 0;
            windowFrom = 0;
            windowTo = LAST_HOUR;
            wantedPlace = NONE;
            advance();
            boolean good = readClauses();
            faultAt = good ? NONE : place;
            if (!good) {
                return null;
            }
            starts[sums] = cells;
            return new Contract(Arrays.copyOf(code, cells), Arrays.copyOf(starts, sums + 1),
                    windowFrom, windowTo, wantedPlace);
        }

        /** Each of the methods that read answers whether the TEXT could go on; if not, the TOKEN is the FAULT. */
        private boolean readClauses() {
            for (int n = 0; n < MOST_CLAUSES; n++) {
                if (!readClause()) {
                    return false;
                }
                if (kind == END) {
                    return true;
                }
                if (!passSign(';')) {
                    return false;
                }
            }
            return false;
        }

        private boolean readClause() {
            if (passWord("window")) {
                return readWindow();
            }
            if (passWord("at")) {
                if (!isNumber(0, MOST_TERMINALS - 1)) {
                    return false;
                }
                wantedPlace = value;
                advance();
                return true;
            }
            if (passWord("pay")) {
                return readMoney(PAY);
            }
            return passWord("fine") && readMoney(FINE);
        }

        private boolean readWindow() {
            if (!isNumber(0, LAST_HOUR)) {
                return false;
            }
            int from = value;
            advance();
            if (!passWord("to") || !isNumber(from, LAST_HOUR)) {
                return false;
            }
            windowFrom = from;
            windowTo = value;
            advance();
            return true;
        }

        private boolean readMoney(int sort) {
            if (sums < MOST_CLAUSES) {
                starts[sums] = cells;
                sums++;
            }
            if (!readSum()) {
                return false;
            }
            if (passWord("if")) {
                if (!readTest()) {
                    return false;
                }
                emit(IF);
            }
            emit(sort);
            return true;
        }

        private boolean readTest() {
            if (!readBoth()) {
                return false;
            }
            for (int n = 0; n < MOST_BYTES && passWord("or"); n++) {
                int jump = emitJump(OR);
                if (!readBoth()) {
                    return false;
                }
                land(jump);
            }
            return true;
        }

        private boolean readBoth() {
            if (!readPlain()) {
                return false;
            }
            for (int n = 0; n < MOST_BYTES && passWord("and"); n++) {
                int jump = emitJump(AND);
                if (!readPlain()) {
                    return false;
                }
                land(jump);
            }
            return true;
        }

        private boolean readPlain() {
            boolean turned = false;
            for (int n = 0; n < MOST_BYTES && passWord("not"); n++) {
                turned = !turned;
            }
            boolean good = isSign('(') ? readInBrackets(true) : readCompared();
            if (good && turned) {
                emit(NOT);
            }
            return good;
        }

        private boolean readCompared() {
            if (!readSum()) {
                return false;
            }
            int sort = isSign('<') ? BELOW : isSign('>') ? ABOVE : ALIKE;
            if (sort == ALIKE && !isSign('=')) {
                return false;
            }
            advance();
            if (!readSum()) {
                return false;
            }
            emit(sort);
            return true;
        }

        private boolean readSum() {
            if (!readTerm()) {
                return false;
            }
            for (int n = 0; n < MOST_BYTES && (isSign('+') || isSign('-')); n++) {
                int sort = isSign('+') ? ADD : SUBTRACT;
                advance();
                if (!readTerm()) {
                    return false;
                }
                emit(sort);
            }
            return true;
        }

        private boolean readTerm() {
            if (!readPart()) {
                return false;
            }
            for (int n = 0; n < MOST_BYTES && (isSign('*') || isSign('/')); n++) {
                int sort = isSign('*') ? MULTIPLY : DIVIDE;
                advance();
                if (!readPart()) {
                    return false;
                }
                emit(sort);
            }
            return true;
        }

        private boolean readPart() {
            if (isSign('[')) {
                return readInBrackets(false);
            }
            int leaf = leafHere();
            if (leaf == NO_LEAF || leaves >= MOST_LEAVES) {
                return false;
            }
            leaves++;
            emit(leaf);
            advance();
            return true;
        }

        /** A TEST in round brackets or a SUM in square ones; so few may stand open that the reading never goes deep. */
        private boolean readInBrackets(boolean round) {
            if (brackets >= MOST_BRACKETS) {
                return false;
            }
            brackets++;
            advance();
            boolean good = round ? readTest() : readSum();
            brackets--;
            return good && passSign(round ? ')' : ']');
        }

        private int leafHere() {
            if (kind == DIGITS) {
                return value <= MOST_NUMBER ? value : NO_LEAF;
            }
            int fact = factHere();
            return fact == NONE ? NO_LEAF : -1 - fact;
        }

        private int factHere() {
            if (isWord("tons")) {
                return FACT_TONS;
            }
            if (isWord("billed")) {
                return FACT_BILLED;
            }
            if (isWord("heat")) {
                return FACT_HEAT;
            }
            if (isWord("late")) {
                return FACT_LATE;
            }
            if (isWord("early")) {
                return FACT_EARLY;
            }
            if (isWord("price")) {
                return FACT_PRICE;
            }
            if (isWord("hours")) {
                return FACT_HOURS;
            }
            return isWord("elsewhere") ? FACT_ELSEWHERE : NONE;
        }

        private boolean isNumber(int least, int most) {
            return kind == DIGITS && within(value, least, most);
        }

        private boolean passWord(String word) {
            boolean here = isWord(word);
            if (here) {
                advance();
            }
            return here;
        }

        private boolean passSign(char sign) {
            boolean here = isSign(sign);
            if (here) {
                advance();
            }
            return here;
        }

        private boolean isSign(char sign) {
            return kind == SIGN && tape[place] == sign;
        }

        private boolean isWord(String word) {
            if (kind != WORD || behind - place != word.length()) {
                return false;
            }
            for (int n = 0; n < word.length(); n++) {
                if (tape[place + n] != word.charAt(n)) {
                    return false;
                }
            }
            return true;
        }

        /** To the next TOKEN; that of the end stands at the TEXT's length. */
        private void advance() {
            place = behind;
            while (place < size && tape[place] == ' ') {
                place++;
            }
            behind = place;
            if (place >= size) {
                kind = END;
            } else if (isLetter(tape[place])) {
                kind = WORD;
                while (behind < size && isLetter(tape[behind])) {
                    behind++;
                }
            } else if (isDigit(tape[place])) {
                kind = DIGITS;
                value = 0;
                while (behind < size && isDigit(tape[behind])) {
                    // A row of digits may be too long for an int: beyond the greatest NUMBER it need not grow.
                    value = Math.min(MOST_NUMBER + 1, value * 10 + tape[behind] - '0');
                    behind++;
                }
            } else {
                kind = SIGN;
                behind++;
            }
        }

        private static boolean isLetter(char sign) {
            return sign >= 'a' && sign <= 'z';
        }

        private static boolean isDigit(char sign) {
            return sign >= '0' && sign <= '9';
        }

        private void emit(int cell) {
            if (cells < code.length) {
                code[cells] = cell;
                cells++;
            }
        }

        /** The place of the cell that is to hold where the jump leads. */
        private int emitJump(int sort) {
            emit(sort);
            emit(0);
            return cells - 1;
        }

        private void land(int jump) {
            if (jump >= 0 && jump < code.length) {
                code[jump] = cells;
            }
        }
    }

    /** Reckons what is DUE for a LANDING, and what its gauges say. */
    private static final class Reckoner {
        private static final long MOST_SUM = 1_000_000_000_000L;

        private final World world;
        private final long[] facts = new long[FACTS];
        /** Brackets within one another hold two values each at most. */
        private final long[] stack = new long[64];
        private int depth;
        private long pays;
        private long fines;

        Reckoner(World world) {
            this.world = world;
        }

        void reckon(int landing, Contract contract, int known) {
            pays = 0;
            fines = 0;
            findFacts(landing, contract, known);
            for (int c = 0; c + 1 < contract.starts.length; c++) {
                runClause(contract.code, contract.starts[c], contract.starts[c + 1]);
            }
        }

        private void findFacts(int landing, Contract contract, int known) {
            int first = world.landings.number(landing, FIRST);
            int last = world.landings.number(landing, LAST);
            // Without "at" the place is NONE, at which no LANDING ever is.
            boolean strays = contract.place != world.landings.number(landing, TERMINAL);
            facts[FACT_TONS] = world.landings.at(landing, TONS);
            facts[FACT_BILLED] = world.billedOf(landing);
            facts[FACT_HEAT] = world.heatOf(landing);
            facts[FACT_LATE] = world.forces.freeHours(0, known, contract.windowTo + 1, last);
            facts[FACT_EARLY] = Math.max(0, contract.windowFrom - first);
            facts[FACT_PRICE] = world.priceOf(landing, known);
            facts[FACT_HOURS] = last - first + 1;
            facts[FACT_ELSEWHERE] = strays ? 1 : 0;
        }

        /** All jumps lead on, so the code ends; what is BROKEN ends it at once, and the CLAUSE counts nothing. */
        private void runClause(int[] code, int from, int to) {
            depth = 0;
            int end = Math.min(to, code.length);
            for (int at = Math.max(0, from); at < end; at++) {
                int cell = code[at];
                if (cell >= 0) {
                    push(cell);
                } else if (cell >= -FACTS) {
                    push(facts[-1 - cell]);
                } else if (cell == OR || cell == AND) {
                    boolean so = pop() != 0;
                    boolean sure = so == (cell == OR);
                    if (sure) {
                        push(so ? 1 : 0);
                    }
                    at = sure && at + 1 < end ? Math.max(at + 1, code[at + 1] - 1) : at + 1;
                } else if (cell == NOT) {
                    push(pop() == 0 ? 1 : 0);
                } else if (cell == IF) {
                    if (pop() == 0) {
                        return;
                    }
                } else if (cell == PAY) {
                    pays += pop();
                } else if (cell == FINE) {
                    fines += pop();
                } else if (!combine(cell)) {
                    return;
                }
            }
        }

        /** False if what comes of it is BROKEN. */
        private boolean combine(int sort) {
            long right = pop();
            long left = pop();
            switch (sort) {
                case ADD: return pushSum(left + right);
                case SUBTRACT: return pushSum(left - right);
                case MULTIPLY: return (right == 0 || Math.abs(left) <= MOST_SUM / Math.abs(right))
                        && pushSum(left * right);
                case DIVIDE: return right != 0 && pushSum(left / right);
                case BELOW: return pushSum(left < right ? 1 : 0);
                case ABOVE: return pushSum(left > right ? 1 : 0);
                default: return pushSum(left == right ? 1 : 0);
            }
        }

        private boolean pushSum(long sum) {
            push(sum);
            return Math.abs(sum) <= MOST_SUM;
        }

        private void push(long value) {
            if (depth < stack.length) {
                stack[depth] = value;
                depth++;
            }
        }

        private long pop() {
            if (depth == 0) {
                return 0;
            }
            depth--;
            return stack[depth];
        }

        /** Tons by the table of the READING told last of those known, NOTHING without. */
        long tonsRead(int landing, int which, int known) {
            int ship = world.landings.number(landing, SHIP);
            if (!world.hasShip(ship) || !world.ships[ship].gaugeCounts()) {
                return NOTHING;
            }
            for (int n = world.readings.size - 1; n >= 0; n--) {
                if (world.readings.at(n, READ_LANDING) == landing && world.readings.at(n, READ_WHICH) == which
                        && world.readings.at(n, READ_KNOWN) <= known) {
                    int mended = world.readings.number(n, READ_CENTIMETRES)
                            - world.readings.number(n, READ_TRIM) * world.ships[ship].list;
                    return world.ships[ship].tonsAt(mended);
                }
            }
            return NOTHING;
        }

        long tonsGauged(int landing, int known) {
            long ahead = tonsRead(landing, 0, known);
            long behind = tonsRead(landing, 1, known);
            return ahead == NOTHING || behind == NOTHING ? NOTHING : ahead - behind;
        }

        long claimOf(int landing, int known) {
            long tons = tonsGauged(landing, known);
            return tons == NOTHING ? NOTHING : (world.billedOf(landing) - tons) * world.priceOf(landing, known);
        }
    }

    /** Finds the BEST VOYAGES: for each SHIP the best row of every set of CARGOES, then the best sets together. */
    private static final class Planner {
        private static final int MOST_VOYAGES = 3;
        private static final int SETS = 1 << MOST_CARGOES;

        private final World world;
        private final long[] rowWorths = new long[MOST_VOYAGES * SETS];
        /** Of each CARGO its place in the row, three bits, CARGO 0 highest: the lesser number is the first row. */
        private final int[] rowPlaces = new int[MOST_VOYAGES * SETS];
        private final long[] setWorths = new long[SETS];
        /** Of each CARGO its SHIP, two bits (3: left out), CARGO 0 highest. */
        private final int[] setShips = new int[SETS];

        // Of the CARGO that was reckoned last.
        private int loadAt;
        private int landAt;
        private int freeAt;
        private long worth;

        // The latest BEST, of so many CARGOES.
        private int planned;
        private final int[] shipOf = new int[MOST_CARGOES];
        private final int[] placeOf = new int[MOST_CARGOES];
        private final int[] loadOf = new int[MOST_CARGOES];
        private final int[] landOf = new int[MOST_CARGOES];
        private final long[] worthOf = new long[MOST_CARGOES];

        Planner(World world) {
            this.world = world;
        }

        boolean sails(int ship) {
            return world.hasShip(ship) && ship < MOST_VOYAGES;
        }

        long findBest(int from) {
            int sets = 1 << Math.min(MOST_CARGOES, world.cargoes.size);
            Arrays.fill(setWorths, NOTHING);
            setWorths[0] = 0;
            setShips[0] = (1 << 2 * MOST_CARGOES) - 1;
            for (int ship = 0; ship < MOST_VOYAGES && ship < world.shipCount; ship++) {
                Arrays.fill(rowWorths, ship * SETS, (ship + 1) * SETS, NOTHING);
                rowWorths[ship * SETS] = 0;
                rowPlaces[ship * SETS] = 0;
                extend(ship, 0, 0, world.ships[ship].where, from, 0L, 0);
                addShip(ship, sets);
            }
            int chosen = 0;
            for (int set = 1; set < sets; set++) {
                if (isBetter(set, chosen)) {
                    chosen = set;
                }
            }
            keepPlan(setShips[chosen], from);
            return setWorths[chosen];
        }

        /** Tries each CARGO that is not in the set yet behind the row that the SHIP has. */
        private void extend(int ship, int depth, int set, int where, int hour, long sum, int places) {
            if (depth >= MOST_CARGOES) {
                return;
            }
            for (int cargo = 0; cargo < world.cargoes.size && cargo < MOST_CARGOES; cargo++) {
                if ((set >> cargo & 1) == 0 && reckon(ship, cargo, where, hour)) {
                    int more = set | 1 << cargo;
                    int morePlaces = places | depth << 3 * (MOST_CARGOES - 1 - cargo);
                    long moreWorth = sum + worth;
                    keepRow(ship * SETS + more, moreWorth, morePlaces);
                    extend(ship, depth + 1, more, world.cargoes.number(cargo, CARGO_TO), freeAt, moreWorth, morePlaces);
                }
            }
        }

        private void keepRow(int index, long sum, int places) {
            if (index < 0 || index >= rowWorths.length) {
                return;
            }
            if (sum > rowWorths[index] || sum == rowWorths[index] && places < rowPlaces[index]) {
                rowWorths[index] = sum;
                rowPlaces[index] = places;
            }
        }

        /** From the greatest set down, for what is added to are lesser sets, which must be without the SHIP still. */
        private void addShip(int ship, int sets) {
            for (int set = sets - 1; set > 0; set--) {
                for (int own = 1; own <= set; own++) {
                    int others = set & ~own;
                    if ((own & ~set) == 0 && rowWorths[ship * SETS + own] != NOTHING
                            && setWorths[others] != NOTHING) {
                        joinSets(ship, set, own);
                    }
                }
            }
        }

        private void joinSets(int ship, int set, int own) {
            int others = set & ~own;
            long sum = setWorths[others] + rowWorths[ship * SETS + own];
            if (sum < setWorths[set]) {
                return;
            }
            int ships = setShips[others];
            for (int cargo = 0; cargo < MOST_CARGOES; cargo++) {
                if ((own >> cargo & 1) == 1) {
                    int shift = 2 * (MOST_CARGOES - 1 - cargo);
                    ships = ships & ~(3 << shift) | ship << shift;
                }
            }
            if (sum > setWorths[set] || ships < setShips[set]) {
                setWorths[set] = sum;
                setShips[set] = ships;
            }
        }

        private boolean isBetter(int set, int than) {
            if (setWorths[set] != setWorths[than]) {
                return setWorths[set] > setWorths[than];
            }
            int more = Integer.bitCount(set) - Integer.bitCount(than);
            return more != 0 ? more < 0 : setShips[set] < setShips[than];
        }

        private void keepPlan(int ships, int from) {
            planned = Math.min(MOST_CARGOES, world.cargoes.size);
            for (int cargo = 0; cargo < planned; cargo++) {
                int ship = ships >> 2 * (MOST_CARGOES - 1 - cargo) & 3;
                shipOf[cargo] = ship < MOST_VOYAGES ? ship : NONE;
            }
            for (int ship = 0; ship < MOST_VOYAGES && ship < world.shipCount; ship++) {
                keepVoyage(ship, from);
            }
        }

        private void keepVoyage(int ship, int from) {
            int set = 0;
            for (int cargo = 0; cargo < planned; cargo++) {
                set |= shipOf[cargo] == ship ? 1 << cargo : 0;
            }
            int places = rowPlaces[ship * SETS + set];
            int where = world.ships[ship].where;
            int hour = from;
            for (int place = 0; place < planned; place++) {
                int cargo = cargoAt(set, places, place);
                if (cargo == NONE || !reckon(ship, cargo, where, hour)) {
                    return;
                }
                placeOf[cargo] = place;
                loadOf[cargo] = loadAt;
                landOf[cargo] = landAt;
                worthOf[cargo] = worth;
                where = world.cargoes.number(cargo, CARGO_TO);
                hour = freeAt;
            }
        }

        private int cargoAt(int set, int places, int place) {
            for (int cargo = 0; cargo < planned; cargo++) {
                if ((set >> cargo & 1) == 1 && (places >> 3 * (MOST_CARGOES - 1 - cargo) & 7) == place) {
                    return cargo;
                }
            }
            return NONE;
        }

        /** WORTH of a row that was told, NOTHING if it can't be; behind a NONE nothing is looked at. */
        long worthOfRow(int ship, int a, int b, int c, int from) {
            long sum = 0;
            int set = 0;
            int where = world.ships[ship].where;
            int hour = from;
            for (int place = 0; place < 3; place++) {
                int cargo = place == 0 ? a : place == 1 ? b : c;
                if (cargo == NONE) {
                    return sum;
                }
                if (!world.cargoes.has(cargo) || (set >> cargo & 1) == 1 || !reckon(ship, cargo, where, hour)) {
                    return NOTHING;
                }
                set |= 1 << cargo;
                sum += worth;
                where = world.cargoes.number(cargo, CARGO_TO);
                hour = freeAt;
            }
            return sum;
        }

        /** Reckons one CARGO from a place and an HOUR on; false if it can't be. */
        private boolean reckon(int ship, int cargo, int where, int hour) {
            Rows cargoes = world.cargoes;
            int from = cargoes.number(cargo, CARGO_FROM);
            int to = cargoes.number(cargo, CARGO_TO);
            int tons = cargoes.number(cargo, CARGO_TONS);
            int toIt = world.hoursBetween(where, from);
            int withIt = world.hoursBetween(from, to);
            if (toIt == NONE || withIt == NONE || tons > world.ships[ship].tank.top()) {
                return false;
            }
            loadAt = Math.max(hour + toIt, cargoes.number(cargo, LOAD_OPENS));
            if (loadAt > cargoes.number(cargo, LOAD_CLOSES)) {
                return false;
            }
            int loaded = world.breaks.hourBehind(from, from, loadAt, world.terminals[from].hoursFor(tons));
            if (loaded == NONE) {
                return false;
            }
            landAt = Math.max(loaded + withIt, cargoes.number(cargo, LAND_OPENS));
            if (landAt > cargoes.number(cargo, LAND_CLOSES)) {
                return false;
            }
            freeAt = world.breaks.hourBehind(to, to, landAt, world.terminals[to].hoursFor(tons));
            long boiled = Math.min(tons, (long) tons * (landAt - loadAt) * world.boils / 100_000);
            worth = (tons - boiled) * cargoes.at(cargo, CARGO_PRICE)
                    - 100L * world.ships[ship].fuel * (toIt + withIt);
            return freeAt != NONE;
        }
    }
}
