import java.math.BigInteger;
import java.util.ArrayList;
import java.util.Arrays;
import java.util.List;

/**
 * Long rows of drawn calls (from a fixed seed) on the class and on a slow mirror of the document:
 * hour by hour, ton by ton, all rows of voyages tried, images by doing all calls again.
 * No object is called more often than the 512 times that the document promises for.
 * Prints every call whose answers differ.
 */
public final class MirrorTest {
    static final long NOTHING = -2_000_000_000_000_000L;
    static int wrong = 0;
    static long seed = 20261118L;

    static int draw(int below) {
        seed = seed * 6364136223846793005L + 1442695040888963407L;
        return (int) ((seed >>> 33) % below);
    }

    static int between(int a, int b) {
        return a + draw(b - a + 1);
    }

    // ---------------------------------------------------------------- the mirror

    static final class MShip {
        int where, cap, fuel, left, gas, vapor, warm = 1800, list, half = -1;
        boolean drifting;
        int[] parts = new int[6];
        List<int[]> orders = new ArrayList<>();
        long[] book = new long[4];
        int first = -1, last = -1;
        int[] landed = new int[6];
        int[][] table = new int[4][];

        int press() {
            return (int) ((long) vapor * 1000 / (cap - gas + cap / 100));
        }

        int draft() {
            return 8 + (int) ((long) 8 * gas / cap);
        }

        int[] leave(int tons) {
            int[] gave = new int[6];
            if (tons == 0) {
                return gave;
            }
            long[] rest = new long[6];
            int sum = 0;
            for (int i = 0; i < 6; i++) {
                gave[i] = BigInteger.valueOf(tons).multiply(BigInteger.valueOf(parts[i]))
                        .divide(BigInteger.valueOf(gas)).intValue();
                rest[i] = (long) tons * parts[i] - (long) gave[i] * gas;
                sum += gave[i];
            }
            List<Integer> byRest = new ArrayList<>(List.of(0, 1, 2, 3, 4, 5));
            byRest.sort((x, y) -> rest[x] != rest[y] ? Long.compare(rest[y], rest[x]) : x - y);
            for (int k = 0; sum < tons; k++, sum++) {
                gave[byRest.get(k)]++;
            }
            for (int i = 0; i < 6; i++) {
                parts[i] -= gave[i];
                if (parts[i] < 0) {
                    throw new IllegalStateException("a part below 0");
                }
            }
            gas -= tons;
            return gave;
        }
    }

    static final class MLanding {
        int ship, terminal, first, last, tons;
        int[] parts = new int[6];
        int bill = -1, by = -1, when;
        long due;
    }

    static final class State {
        int now, boils = 10, limit = 700, given;
        List<int[]> terminals = new ArrayList<>();
        List<MShip> ships = new ArrayList<>();
        int[][] way = new int[6][6];
        boolean[][] canal = new boolean[6][6];
        int[] tide = new int[25], sea = new int[100];
        List<int[]> slots = new ArrayList<>(), broken = new ArrayList<>(), forces = new ArrayList<>();
        List<int[]> prices = new ArrayList<>(), readings = new ArrayList<>(), cargoes = new ArrayList<>();
        List<MLanding> landings = new ArrayList<>();
        List<String> contracts = new ArrayList<>();

        boolean broken(int terminal, int h) {
            return broken.stream().anyMatch(b -> b[0] == terminal && b[1] <= h && h <= b[2]);
        }

        void hour() {
            boolean[] turn = {false};
            for (int s = 0; s < ships.size(); s++) {
                pass(s, ships.get(s), now, turn);
            }
            now++;
        }

        void pass(int number, MShip s, int h, boolean[] turn) {
            boolean sailing = s.left > 0;
            int heel = s.cap * 2 / 100;
            int top = s.cap * 98 / 100;
            int boiled = (int) ((long) s.gas * (boils + sea[h / 24]) / 100000);
            s.leave(boiled);
            s.vapor += boiled;
            if (s.gas < heel) {
                s.warm = Math.min(1800, s.warm + 5);
            } else if (s.warm > 0) {
                int before = s.warm;
                s.warm = Math.max(0, s.warm - 20);
                int cooled = (int) Math.min(s.gas, (long) (before - s.warm) * s.cap / 100000);
                s.leave(cooled);
                s.vapor += cooled;
            }
            int need = sailing ? s.fuel : s.fuel / 4;
            s.drifting = s.gas + s.vapor < need;
            for (int t = 0; t < need && s.vapor > 0; t++) {
                s.vapor--;
                need--;
                t--;
                s.book[1]++;
            }
            int ofGas = Math.min(need, s.gas);
            s.leave(ofGas);
            s.book[1] += ofGas;
            if (!s.orders.isEmpty()) {
                obey(number, s, h, turn, heel, top);
            }
            while (s.press() > limit) {
                s.vapor--;
                s.book[2]++;
            }
        }

        void obey(int number, MShip s, int h, boolean[] turn, int heel, int top) {
            int[] o = s.orders.get(0);
            if (o[0] == 3) {
                if (h >= o[1]) {
                    s.orders.remove(0);
                }
                return;
            }
            if (o[0] == 0) {
                if (s.left == 0 && s.where == o[1]) {
                    s.orders.remove(0);
                    return;
                }
                if (s.left == 0) {
                    if (way[s.where][o[1]] == 0) {
                        return;
                    }
                    s.left = way[s.where][o[1]];
                    s.half = canal[s.where][o[1]] ? s.left / 2 : -1;
                    s.where = o[1];
                }
                boolean can = !s.drifting && !(sea[h / 24] > 6 && h % 2 != 0);
                if (can && s.left == s.half) {
                    can = !turn[0] && (h % 24 == 6 || h % 24 == 12 || h % 24 == 18);
                    turn[0] |= can;
                }
                if (can) {
                    s.left--;
                }
                if (s.left == 0) {
                    s.orders.remove(0);
                }
                return;
            }
            int[] t = terminals.get(s.where);
            boolean inSlot = slots.stream()
                    .anyMatch(x -> x[0] == s.where && x[1] == number && x[2] <= h && h <= x[3]);
            if (!inSlot || broken(s.where, h) || t[3] + tide[h % 25] < s.draft()) {
                return;
            }
            int tons = 0;
            if (o[0] == 1) {
                int rate = s.warm > 200 ? Math.max(1, t[2] / 4) : t[2];
                while (tons < rate && o[1] > 0 && t[0] > 0 && s.gas < top) {
                    tons++;
                    o[1]--;
                    t[0]--;
                    s.gas++;
                    s.parts[s.where]++;
                    s.book[0]++;
                }
                if (tons == 0 || o[1] == 0) {
                    s.orders.remove(0);
                }
                return;
            }
            while (tons < t[2] && o[1] > 0 && s.gas - tons > heel && t[0] < t[1]) {
                tons++;
                o[1]--;
                t[0]++;
                s.book[3]++;
            }
            if (tons > 0) {
                int[] gave = s.leave(tons);
                for (int i = 0; i < 6; i++) {
                    s.landed[i] += gave[i];
                }
                s.first = s.first < 0 ? h : s.first;
                s.last = h;
            }
            if (tons == 0 || o[1] == 0) {
                if (s.first >= 0 && landings.size() < 60) {
                    MLanding l = new MLanding();
                    l.ship = number;
                    l.terminal = s.where;
                    l.first = s.first;
                    l.last = s.last;
                    l.parts = s.landed;
                    l.tons = Arrays.stream(s.landed).sum();
                    landings.add(l);
                }
                s.first = -1;
                s.landed = new int[6];
                s.orders.remove(0);
            }
        }

        // ------------------------------------------------------------ facts

        long heat(MLanding l) {
            long sum = 0;
            for (int i = 0; i < terminals.size(); i++) {
                sum += (long) l.parts[i] * terminals.get(i)[4];
            }
            return sum / l.tons;
        }

        long price(int day, int known) {
            for (int d = day; d >= 0; d--) {
                for (int n = prices.size() - 1; n >= 0; n--) {
                    if (prices.get(n)[0] == d && prices.get(n)[2] <= known) {
                        return prices.get(n)[1];
                    }
                }
            }
            return 0;
        }

        long late(MLanding l, int end, int known) {
            long late = 0;
            for (int h = end + 1; h <= l.last; h++) {
                int hour = h;
                if (forces.stream().noneMatch(f -> f[2] <= known && f[0] <= hour && hour <= f[1])) {
                    late++;
                }
            }
            return late;
        }

        long due(int landing, int contract, int known, int what) {
            if (landing < 0 || landing >= landings.size() || contract < 0 || contract >= contracts.size()
                    || known < 0 || known > 2399 || what < 0 || what > 4) {
                return NOTHING;
            }
            MLanding l = landings.get(landing);
            Text t = new Text(contracts.get(contract));
            t.read();
            long[] facts = {l.tons, l.bill < 0 ? l.tons : l.bill, heat(l), late(l, t.to, known),
                Math.max(0, t.from - l.first), price(l.last / 24, known), l.last - l.first + 1,
                t.at == l.terminal ? 0 : 1};
            if (what >= 3) {
                return what == 3 ? facts[3] : facts[5];
            }
            long pay = 0;
            long fine = 0;
            for (Node c : t.clauses) {
                try {
                    BigInteger sum = c.kids.get(0).sum(facts);
                    boolean counts = c.kids.size() < 2 || c.kids.get(1).test(facts);
                    if (counts && c.op.equals("pay")) {
                        pay += sum.longValueExact();
                    } else if (counts) {
                        fine += sum.longValueExact();
                    }
                } catch (Snapped e) {
                    continue;
                }
            }
            return what == 0 ? pay - fine : what == 1 ? pay : fine;
        }

        long read(int landing, int which, int known) {
            MLanding l = landings.get(landing);
            MShip s = ships.get(l.ship);
            for (int k = 0; k < 4; k++) {
                if (s.table[k] == null) {
                    return NOTHING;
                }
            }
            for (int k = 1; k < 4; k++) {
                if (s.table[k][0] <= s.table[k - 1][0] || s.table[k][1] < s.table[k - 1][1]) {
                    return NOTHING;
                }
            }
            int[] last = null;
            for (int[] r : readings) {
                if (r[0] == landing && r[1] == which && r[4] <= known) {
                    last = r;
                }
            }
            if (last == null) {
                return NOTHING;
            }
            int cm = last[2] - last[3] * s.list;
            if (cm <= s.table[0][0]) {
                return s.table[0][1];
            }
            if (cm >= s.table[3][0]) {
                return s.table[3][1];
            }
            int k = 0;
            while (cm >= s.table[k + 1][0]) {
                k++;
            }
            int[] a = s.table[k];
            int[] b = s.table[k + 1];
            return a[1] + (long) (b[1] - a[1]) * (cm - a[0]) / (b[0] - a[0]);
        }

        long gauged(int landing, int known, int what) {
            if (landing < 0 || landing >= landings.size() || known < 0 || known > 2399 || what < 0 || what > 3) {
                return NOTHING;
            }
            long ahead = read(landing, 0, known);
            long behind = read(landing, 1, known);
            if (what < 2) {
                return what == 0 ? ahead : behind;
            }
            if (ahead == NOTHING || behind == NOTHING) {
                return NOTHING;
            }
            MLanding l = landings.get(landing);
            long billed = l.bill < 0 ? l.tons : l.bill;
            return what == 2 ? ahead - behind : (billed - (ahead - behind)) * price(l.last / 24, known);
        }

        // ------------------------------------------------------------ voyages

        /** {worth, free hour, load, land} or null. */
        long[] one(int ship, int cargo, int where, int hour) {
            int[] c = cargoes.get(cargo);
            MShip s = ships.get(ship);
            int to = where == c[0] ? 0 : way[where][c[0]];
            int with = way[c[0]][c[1]];
            if (where != c[0] && to == 0 || with == 0 || c[6] > s.cap * 98 / 100) {
                return null;
            }
            int load = Math.max(hour + to, c[2]);
            int left = work(c[0], load, c[6]);
            if (load > c[3] || left < 0) {
                return null;
            }
            int land = Math.max(left + with, c[4]);
            int free = work(c[1], land, c[6]);
            if (land > c[5] || free < 0) {
                return null;
            }
            long boiled = Math.min(c[6], (long) c[6] * (land - load) * boils / 100000);
            return new long[] {(c[6] - boiled) * c[7] - 100L * s.fuel * (to + with), free, load, land};
        }

        int work(int terminal, int begin, int tons) {
            int rate = terminals.get(terminal)[2];
            int need = tons / rate + (tons % rate > 0 ? 1 : 0);
            int h = begin;
            while (need > 0) {
                if (h > 2399) {
                    return -1;
                }
                if (!broken(terminal, h)) {
                    need--;
                }
                h++;
            }
            return h;
        }

        long judge(int ship, int[] row, int from) {
            if (ship < 0 || ship >= Math.min(3, ships.size()) || from < 0 || from > 2399) {
                return NOTHING;
            }
            long sum = 0;
            int where = ships.get(ship).where;
            int hour = from;
            List<Integer> done = new ArrayList<>();
            for (int c : row) {
                if (c == -1) {
                    break;
                }
                if (c < 0 || c >= cargoes.size() || done.contains(c)) {
                    return NOTHING;
                }
                long[] got = one(ship, c, where, hour);
                if (got == null) {
                    return NOTHING;
                }
                done.add(c);
                sum += got[0];
                where = cargoes.get(c)[1];
                hour = (int) got[1];
            }
            return sum;
        }
    }

    /** All rows of all ships, tried one by one. */
    static final class Best {
        final State st;
        final int from;
        int[] ship, place;
        long[] load, land, worth;
        long sum = Long.MIN_VALUE;
        int count;
        int[] key;
        final List<List<Integer>> rows = new ArrayList<>();

        Best(State st, int from) {
            this.st = st;
            this.from = from;
            for (int s = 0; s < 3; s++) {
                rows.add(new ArrayList<>());
            }
            tryFrom(0, st.ships.isEmpty() ? -1 : st.ships.get(0).where, from, 0);
        }

        void tryFrom(int s, int where, int hour, long so) {
            if (s >= Math.min(3, st.ships.size())) {
                judge(so);
                return;
            }
            tryFrom(s + 1, s + 1 < st.ships.size() ? st.ships.get(s + 1).where : -1, from, so);
            for (int c = 0; c < st.cargoes.size(); c++) {
                int cargo = c;
                if (rows.stream().anyMatch(r -> r.contains(cargo))) {
                    continue;
                }
                long[] got = st.one(s, c, where, hour);
                if (got != null) {
                    rows.get(s).add(c);
                    tryFrom(s, st.cargoes.get(c)[1], (int) got[1], so + got[0]);
                    rows.get(s).remove(rows.get(s).size() - 1);
                }
            }
        }

        void judge(long so) {
            int n = st.cargoes.size();
            int[] k = new int[2 * n];
            Arrays.fill(k, 9);
            int cargoes = 0;
            for (int s = 0; s < 3; s++) {
                for (int p = 0; p < rows.get(s).size(); p++) {
                    k[rows.get(s).get(p)] = s;
                    k[n + rows.get(s).get(p)] = p;
                    cargoes++;
                }
            }
            boolean better = so != sum ? so > sum
                    : cargoes != count ? cargoes < count : Arrays.compare(k, key) < 0;
            if (better) {
                sum = so;
                count = cargoes;
                key = k;
            }
        }

        void finish() {
            int n = st.cargoes.size();
            ship = new int[n];
            place = new int[n];
            load = new long[n];
            land = new long[n];
            worth = new long[n];
            Arrays.fill(ship, -1);
            for (int s = 0; s < Math.min(3, st.ships.size()); s++) {
                int where = st.ships.get(s).where;
                int hour = from;
                for (int p = 0; p < n; p++) {
                    for (int c = 0; c < n; c++) {
                        if (key[c] == s && key[n + c] == p) {
                            long[] got = st.one(s, c, where, hour);
                            ship[c] = s;
                            place[c] = p;
                            worth[c] = got[0];
                            load[c] = got[2];
                            land[c] = got[3];
                            hour = (int) got[1];
                            where = st.cargoes.get(c)[1];
                            break;
                        }
                    }
                }
            }
        }
    }

    // ---------------------------------------------------------------- texts as trees

    static final class Snapped extends RuntimeException {
        Snapped() {
            super(null, null, false, false);
        }
    }

    static final class Fault extends RuntimeException {
        final int place;

        Fault(int place) {
            this.place = place;
        }
    }

    static final class Node {
        final String op;
        final List<Node> kids = new ArrayList<>();

        Node(String op, Node... kids) {
            this.op = op;
            this.kids.addAll(List.of(kids));
        }

        BigInteger sum(long[] facts) {
            List<String> words = List.of("tons", "billed", "heat", "late", "early", "price", "hours", "elsewhere");
            BigInteger r;
            if (words.contains(op)) {
                r = BigInteger.valueOf(facts[words.indexOf(op)]);
            } else if (kids.isEmpty()) {
                r = new BigInteger(op);
            } else {
                BigInteger a = kids.get(0).sum(facts);
                BigInteger b = kids.get(1).sum(facts);
                if (op.equals("/") && b.signum() == 0) {
                    throw new Snapped();
                }
                r = op.equals("+") ? a.add(b) : op.equals("-") ? a.subtract(b)
                        : op.equals("*") ? a.multiply(b) : a.divide(b);
            }
            if (r.abs().compareTo(BigInteger.valueOf(1_000_000_000_000L)) > 0) {
                throw new Snapped();
            }
            return r;
        }

        boolean test(long[] facts) {
            switch (op) {
                case "or": return kids.get(0).test(facts) || kids.get(1).test(facts);
                case "and": return kids.get(0).test(facts) && kids.get(1).test(facts);
                case "not": return !kids.get(0).test(facts);
                default:
                    int c = kids.get(0).sum(facts).compareTo(kids.get(1).sum(facts));
                    return op.equals("<") ? c < 0 : op.equals(">") ? c > 0 : c == 0;
            }
        }
    }

    static final class Text {
        final List<String> tokens = new ArrayList<>();
        final List<Integer> places = new ArrayList<>();
        final List<Node> clauses = new ArrayList<>();
        final int length;
        int next, from = 0, to = 2399, at = -1, leaves, open;

        Text(String text) {
            length = text.length();
            int i = 0;
            while (i < length) {
                char c = text.charAt(i);
                int j = i + 1;
                if (c >= 'a' && c <= 'z') {
                    while (j < length && text.charAt(j) >= 'a' && text.charAt(j) <= 'z') {
                        j++;
                    }
                } else if (c >= '0' && c <= '9') {
                    while (j < length && text.charAt(j) >= '0' && text.charAt(j) <= '9') {
                        j++;
                    }
                }
                if (c != ' ') {
                    tokens.add(text.substring(i, j));
                    places.add(i);
                }
                i = j;
            }
        }

        String peek() {
            return next < tokens.size() ? tokens.get(next) : "";
        }

        Fault fault() {
            return new Fault(next < tokens.size() ? places.get(next) : length);
        }

        boolean eat(String t) {
            if (peek().equals(t)) {
                next++;
                return true;
            }
            return false;
        }

        void must(String t) {
            if (!eat(t)) {
                throw fault();
            }
        }

        int number(int least, int most) {
            String t = peek();
            if (t.isEmpty() || !Character.isDigit(t.charAt(0)) || t.charAt(0) > 127) {
                throw fault();
            }
            BigInteger n = new BigInteger(t);
            if (n.compareTo(BigInteger.valueOf(least)) < 0 || n.compareTo(BigInteger.valueOf(most)) > 0) {
                throw fault();
            }
            next++;
            return n.intValue();
        }

        /** The place of the fault, -1 without. */
        int read() {
            try {
                int n = 0;
                do {
                    if (n == 12) {
                        throw fault();
                    }
                    clause();
                    n++;
                } while (eat(";"));
                if (next < tokens.size()) {
                    throw fault();
                }
                return -1;
            } catch (Fault f) {
                return f.place;
            }
        }

        void clause() {
            if (eat("window")) {
                int a = number(0, 2399);
                must("to");
                to = number(a, 2399);
                from = a;
            } else if (eat("at")) {
                at = number(0, 5);
            } else if (peek().equals("pay") || peek().equals("fine")) {
                Node n = new Node(tokens.get(next++));
                n.kids.add(sum());
                if (eat("if")) {
                    n.kids.add(test());
                }
                clauses.add(n);
            } else {
                throw fault();
            }
        }

        Node test() {
            Node n = both();
            while (eat("or")) {
                n = new Node("or", n, both());
            }
            return n;
        }

        Node both() {
            Node n = plain();
            while (eat("and")) {
                n = new Node("and", n, plain());
            }
            return n;
        }

        Node plain() {
            if (eat("not")) {
                return new Node("not", plain());
            }
            if (peek().equals("(")) {
                opened();
                Node n = test();
                must(")");
                open--;
                return n;
            }
            Node a = sum();
            String op = peek();
            if (!op.equals("<") && !op.equals(">") && !op.equals("=")) {
                throw fault();
            }
            next++;
            return new Node(op, a, sum());
        }

        void opened() {
            if (open == 8) {
                throw fault();
            }
            open++;
            next++;
        }

        Node sum() {
            Node n = term();
            while (peek().equals("+") || peek().equals("-")) {
                String op = tokens.get(next++);
                n = new Node(op, n, term());
            }
            return n;
        }

        Node term() {
            Node n = part();
            while (peek().equals("*") || peek().equals("/")) {
                String op = tokens.get(next++);
                n = new Node(op, n, part());
            }
            return n;
        }

        Node part() {
            if (peek().equals("[")) {
                opened();
                Node n = sum();
                must("]");
                open--;
                return n;
            }
            if (leaves == 50) {
                throw fault();
            }
            List<String> words = List.of("tons", "billed", "heat", "late", "early", "price", "hours", "elsewhere");
            leaves++;
            if (words.contains(peek())) {
                return new Node(tokens.get(next++));
            }
            return new Node(String.valueOf(number(0, 100000)));
        }
    }

    // ---------------------------------------------------------------- the mirror's face

    static final String[] NAMES = {"terminal", "ship", "way", "tide", "sea", "slot", "broken", "terms", "order", "go",
        "heat", "price", "force", "bill", "settle", "table", "list", "reading", "cargo", "clear"};

    static final class Mirror {
        State st = new State();
        String tape = "";
        int fault = -1, status;
        Best best;
        List<Object[]> log = new ArrayList<>();
        List<List<Object[]>> images = new ArrayList<>(Arrays.asList(null, null));

        int change(String name, int... a) {
            int answer = apply(st, name, a);
            boolean refused = wasRefused;
            if (!name.equals("clear")) {
                status = refused ? answer : 0;
            }
            if (!refused) {
                log.add(new Object[] {name, a});
            }
            return answer;
        }

        int contract() {
            String text = tape;
            tape = "";
            if (st.contracts.size() == 12) {
                return status = -5;
            }
            fault = new Text(text).read();
            if (fault >= 0) {
                return status = -6;
            }
            st.contracts.add(text);
            log.add(new Object[] {"contract", text});
            status = 0;
            return st.contracts.size() - 1;
        }

        int image(int k) {
            if (k < 0 || k > 1) {
                return status = -1;
            }
            images.set(k, new ArrayList<>(log));
            return status = 0;
        }

        int back(int k) {
            if (k < 0 || k > 1) {
                return status = -1;
            }
            if (images.get(k) == null) {
                return status = -2;
            }
            log = new ArrayList<>(images.get(k));
            st = new State();
            for (Object[] e : log) {
                if (e[0].equals("contract")) {
                    st.contracts.add((String) e[1]);
                } else {
                    apply(st, (String) e[0], (int[]) e[1]);
                }
            }
            return status = 0;
        }
    }

    static boolean wasRefused;

    static int refuse(int why) {
        wasRefused = true;
        return why;
    }

    static boolean in(int n, int a, int b) {
        return n >= a && n <= b;
    }

    static boolean span(int a, int b) {
        return in(a, 0, 2399) && in(b, a, 2399);
    }

    static int apply(State st, String name, int[] a) {
        wasRefused = false;
        int t = st.terminals.size();
        int s = st.ships.size();
        int l = st.landings.size();
        switch (name) {
            case "terminal":
                if (!in(a[1], 0, 500000) || !in(a[0], 0, a[1]) || !in(a[2], 1, 10000) || !in(a[3], 0, 30)) {
                    return refuse(-1);
                }
                if (t == 6) {
                    return refuse(-5);
                }
                st.terminals.add(new int[] {a[0], a[1], a[2], a[3], 1000});
                return t;
            case "ship":
                if (!in(a[1], 1000, 200000) || !in(a[2], 1, 50)) {
                    return refuse(-1);
                }
                if (!in(a[0], 0, t - 1)) {
                    return refuse(-2);
                }
                if (s == 6) {
                    return refuse(-5);
                }
                MShip made = new MShip();
                made.where = a[0];
                made.cap = a[1];
                made.fuel = a[2];
                st.ships.add(made);
                return s;
            case "way":
                if (!in(a[2], 1, 400)) {
                    return refuse(-1);
                }
                if (!in(a[0], 0, t - 1) || !in(a[1], 0, t - 1)) {
                    return refuse(-2);
                }
                if (a[0] == a[1]) {
                    return refuse(-3);
                }
                st.way[a[0]][a[1]] = st.way[a[1]][a[0]] = a[2];
                st.canal[a[0]][a[1]] = st.canal[a[1]][a[0]] = a[3] == 1;
                return 0;
            case "tide":
                if (!in(a[0], 0, 24) || !in(a[1], 0, 9)) {
                    return refuse(-1);
                }
                st.tide[a[0]] = a[1];
                return 0;
            case "sea":
                if (!in(a[0], 0, 99) || !in(a[1], 0, 9)) {
                    return refuse(-1);
                }
                st.sea[a[0]] = a[1];
                return 0;
            case "slot":
                if (!span(a[2], a[3])) {
                    return refuse(-1);
                }
                if (!in(a[0], 0, t - 1) || !in(a[1], 0, s - 1)) {
                    return refuse(-2);
                }
                for (int h = a[2]; h <= a[3]; h++) {
                    for (int[] x : st.slots) {
                        if (x[0] == a[0] && x[2] <= h && h <= x[3]) {
                            return refuse(-3);
                        }
                    }
                }
                if (st.slots.size() == 60) {
                    return refuse(-5);
                }
                st.slots.add(a.clone());
                return st.slots.size();
            case "broken":
                if (!span(a[1], a[2])) {
                    return refuse(-1);
                }
                if (!in(a[0], 0, t - 1)) {
                    return refuse(-2);
                }
                if (st.broken.size() == 20) {
                    return refuse(-5);
                }
                st.broken.add(a.clone());
                return st.broken.size();
            case "terms":
                if (!in(a[0], 0, 100) || !in(a[1], 1, 1000)) {
                    return refuse(-1);
                }
                st.boils = a[0];
                st.limit = a[1];
                return 0;
            case "order":
                if (!in(a[1], 0, 3) || (a[1] == 1 || a[1] == 2) && !in(a[2], 1, 200000)
                        || a[1] == 3 && !in(a[2], 0, 2399)) {
                    return refuse(-1);
                }
                if (!in(a[0], 0, s - 1) || a[1] == 0 && !in(a[2], 0, t - 1)) {
                    return refuse(-2);
                }
                if (st.ships.get(a[0]).orders.size() == 20 || st.given == 400) {
                    return refuse(-5);
                }
                st.given++;
                st.ships.get(a[0]).orders.add(new int[] {a[1], a[2]});
                return st.ships.get(a[0]).orders.size();
            case "go":
                if (!in(a[0], 1, 480) || st.now + a[0] > 2399) {
                    return refuse(-1);
                }
                for (int n = 0; n < a[0]; n++) {
                    st.hour();
                }
                return st.now;
            case "heat":
                if (!in(a[1], 500, 2000)) {
                    return refuse(-1);
                }
                if (!in(a[0], 0, t - 1)) {
                    return refuse(-2);
                }
                int was = st.terminals.get(a[0])[4];
                st.terminals.get(a[0])[4] = a[1];
                return was;
            case "price":
                if (!in(a[0], 0, 99) || !in(a[1], 0, 10000) || !in(a[2], 0, 2399)) {
                    return refuse(-1);
                }
                if (st.prices.size() == 60) {
                    return refuse(-5);
                }
                st.prices.add(a.clone());
                return st.prices.size();
            case "force":
                if (!span(a[0], a[1]) || !in(a[2], 0, 2399)) {
                    return refuse(-1);
                }
                if (st.forces.size() == 20) {
                    return refuse(-5);
                }
                st.forces.add(a.clone());
                return st.forces.size();
            case "bill":
                if (!in(a[1], 0, 200000)) {
                    return refuse(-1);
                }
                if (!in(a[0], 0, l - 1)) {
                    return refuse(-2);
                }
                if (st.landings.get(a[0]).bill >= 0) {
                    return refuse(-4);
                }
                st.landings.get(a[0]).bill = a[1];
                return 0;
            case "settle":
                if (!in(a[0], 0, l - 1) || !in(a[1], 0, st.contracts.size() - 1)) {
                    return refuse(-2);
                }
                if (st.landings.get(a[0]).by >= 0) {
                    return refuse(-4);
                }
                st.landings.get(a[0]).due = st.due(a[0], a[1], st.now, 0);
                st.landings.get(a[0]).by = a[1];
                st.landings.get(a[0]).when = st.now;
                return 0;
            case "table":
                if (!in(a[1], 0, 3) || !in(a[2], 0, 5000) || !in(a[3], 0, 200000)) {
                    return refuse(-1);
                }
                if (!in(a[0], 0, s - 1)) {
                    return refuse(-2);
                }
                st.ships.get(a[0]).table[a[1]] = new int[] {a[2], a[3]};
                return 0;
            case "list":
                if (!in(a[1], -50, 50)) {
                    return refuse(-1);
                }
                if (!in(a[0], 0, s - 1)) {
                    return refuse(-2);
                }
                int old = st.ships.get(a[0]).list;
                st.ships.get(a[0]).list = a[1];
                return old;
            case "reading":
                if (!in(a[1], 0, 1) || !in(a[2], 0, 5000) || !in(a[3], -20, 20) || !in(a[4], 0, 2399)) {
                    return refuse(-1);
                }
                if (!in(a[0], 0, l - 1)) {
                    return refuse(-2);
                }
                if (st.readings.size() == 60) {
                    return refuse(-5);
                }
                st.readings.add(a.clone());
                return st.readings.size();
            case "cargo":
                if (!span(a[2], a[3]) || !span(a[4], a[5]) || !in(a[6], 1, 200000) || !in(a[7], 0, 1000)) {
                    return refuse(-1);
                }
                if (!in(a[0], 0, t - 1) || !in(a[1], 0, t - 1)) {
                    return refuse(-2);
                }
                if (a[0] == a[1]) {
                    return refuse(-3);
                }
                if (st.cargoes.size() == 6) {
                    return refuse(-5);
                }
                st.cargoes.add(a.clone());
                return st.cargoes.size();
            case "clear":
                int were = st.cargoes.size();
                st.cargoes.clear();
                return were;
            default:
                throw new IllegalStateException(name);
        }
    }

    static int real(Told x, String name, int[] a) {
        switch (name) {
            case "terminal": return x.terminal(a[0], a[1], a[2], a[3]);
            case "ship": return x.ship(a[0], a[1], a[2]);
            case "way": return x.way(a[0], a[1], a[2], a[3] == 1);
            case "tide": return x.tide(a[0], a[1]);
            case "sea": return x.sea(a[0], a[1]);
            case "slot": return x.slot(a[0], a[1], a[2], a[3]);
            case "broken": return x.broken(a[0], a[1], a[2]);
            case "terms": return x.terms(a[0], a[1]);
            case "order": return x.order(a[0], a[1], a[2]);
            case "go": return x.go(a[0]);
            case "heat": return x.heat(a[0], a[1]);
            case "price": return x.price(a[0], a[1], a[2]);
            case "force": return x.force(a[0], a[1], a[2]);
            case "bill": return x.bill(a[0], a[1]);
            case "settle": return x.settle(a[0], a[1]);
            case "table": return x.table(a[0], a[1], a[2], a[3]);
            case "list": return x.list(a[0], a[1]);
            case "reading": return x.reading(a[0], a[1], a[2], a[3], a[4]);
            case "cargo": return x.cargo(a[0], a[1], a[2], a[3], a[4], a[5], a[6], a[7]);
            case "clear": return x.clear();
            default: throw new IllegalStateException(name);
        }
    }

    // ---------------------------------------------------------------- comparing

    static int run;
    static List<String> history = new ArrayList<>();
    /** What the runs have met, so that the test tells if it has grown blind. */
    static long[] met = new long[17];

    static boolean same(String call, long got, long want) {
        if (got != want) {
            wrong++;
            System.out.println("run " + run + ": " + call + " answered " + got + ", due is " + want);
            if (wrong <= 2) {
                history.forEach(System.out::println);
            }
        }
        return got == want;
    }

    static void both(Told x, Mirror m, String name, int... a) {
        String call = name + Arrays.toString(a);
        long want = m.change(name, a);
        long got = real(x, name, a);
        history.add(call + " = " + want);
        same(call, got, want);
        same("status() behind " + call, x.status(), m.status);
    }

    static void compareShips(Told x, State st) {
        for (int s = -1; s <= st.ships.size(); s++) {
            boolean is = s >= 0 && s < st.ships.size();
            MShip m = is ? st.ships.get(s) : new MShip();
            boolean tons = !m.orders.isEmpty() && (m.orders.get(0)[0] == 1 || m.orders.get(0)[0] == 2);
            int[] of = is ? new int[] {m.where, m.left, m.gas, m.vapor, m.warm, m.press(), m.orders.size(),
                tons ? m.orders.get(0)[1] : 0, m.draft(), m.drifting ? 1 : 0, -1} : null;
            for (int w = 0; w <= 10; w++) {
                same("of(" + s + ", " + w + ")", x.of(s, w), is ? of[w] : -1);
            }
            for (int t = -1; t <= st.terminals.size(); t++) {
                boolean there = is && t >= 0 && t < st.terminals.size();
                same("part(" + s + ", " + t + ")", x.part(s, t), there ? m.parts[t] : -1);
            }
            for (int w = -1; w <= 4; w++) {
                same("book(" + s + ", " + w + ")", x.book(s, w), is && w >= 0 && w < 4 ? m.book[w] : -1);
            }
            if (is) {
                same("tons kept of " + s, m.book[0], m.book[1] + m.book[2] + m.book[3] + m.gas + m.vapor);
                met[0] += m.drifting ? 1 : 0;
                met[1] += m.book[2];
                met[2] += m.left > 0 ? 1 : 0;
                met[3] += Arrays.stream(m.parts).filter(p -> p > 0).count() > 1 ? 1 : 0;
            }
        }
    }

    static void compareLandings(Told x, State st) {
        for (int l = -1; l <= st.landings.size(); l++) {
            boolean is = l >= 0 && l < st.landings.size();
            MLanding m = is ? st.landings.get(l) : new MLanding();
            long[] want = is ? new long[] {m.ship, m.terminal, m.first, m.last, m.tons, st.heat(m), m.by >= 0 ? 1 : 0, -1}
                    : null;
            for (int w = 0; w <= 7; w++) {
                same("landing(" + l + ", " + w + ")", x.landing(l, w), is ? want[w] : -1);
            }
            for (int t = -1; t <= st.terminals.size(); t++) {
                boolean there = is && t >= 0 && t < st.terminals.size();
                same("led(" + l + ", " + t + ")", x.led(l, t), there ? m.parts[t] : -1);
            }
            long[] set = {m.due, m.by, m.when};
            for (int w = -1; w <= 3; w++) {
                boolean there = is && m.by >= 0 && w >= 0 && w < 3;
                same("settled(" + l + ", " + w + ")", x.settled(l, w), there ? set[w] : NOTHING);
            }
            int known = draw(6) == 0 ? between(-1, 2400) : Math.min(2399, st.now + draw(3));
            for (int w = -1; w <= 4; w++) {
                same("gauged(" + l + ", " + known + ", " + w + ")", x.gauged(l, known, w), st.gauged(l, known, w));
            }
            met[4] += is ? 1 : 0;
            met[5] += is && st.gauged(l, 2399, 3) != NOTHING ? 1 : 0;
            for (int c = -1; c <= st.contracts.size(); c++) {
                for (int w = -1; w <= 5; w++) {
                    long due = st.due(l, c, known, w);
                    same("due(" + l + ", " + c + ", " + known + ", " + w + ")", x.due(l, c, known, w), due);
                    met[6] += w == 1 && due > 0 ? 1 : 0;
                    met[7] += w == 2 && due > 0 ? 1 : 0;
                    met[8] += w == 3 && due > 0 ? 1 : 0;
                }
            }
        }
    }

    static void compareVoyages(Told x, Mirror m) {
        for (int c = -1; c <= 6; c++) {
            boolean is = m.best != null && c >= 0 && c < m.best.ship.length;
            boolean sails = is && m.best.ship[c] >= 0;
            long[] want = sails ? new long[] {m.best.ship[c], m.best.place[c], m.best.load[c], m.best.land[c],
                m.best.worth[c]} : null;
            for (int w = -1; w <= 5; w++) {
                long due = sails && w >= 0 && w < 5 ? want[w] : is && w == 0 ? -1 : NOTHING;
                same("voyage(" + c + ", " + w + ")", x.voyage(c, w), due);
            }
            met[9] += sails ? 1 : 0;
            met[10] += sails && m.best.place[c] > 0 ? 1 : 0;
        }
    }

    static void compare(Told x, Mirror m) {
        State st = m.st;
        int[] counts = {st.now, st.terminals.size(), st.ships.size(), st.slots.size(), st.landings.size(),
            st.contracts.size(), st.cargoes.size(), st.readings.size(), m.tape.length()};
        for (int w = -1; w <= 9; w++) {
            same("count(" + w + ")", x.count(w), w >= 0 && w < 9 ? counts[w] : -1);
        }
        for (int t = -1; t <= st.terminals.size(); t++) {
            boolean there = t >= 0 && t < st.terminals.size();
            same("store(" + t + ")", x.store(t), there ? st.terminals.get(t)[0] : -1);
        }
        same("fault()", x.fault(), m.fault);
        compareShips(x, st);
        compareLandings(x, st);
        compareVoyages(x, m);
    }

    // ---------------------------------------------------------------- drawn texts

    static final String[] FACTS = {"tons", "billed", "heat", "late", "early", "price", "hours", "elsewhere"};

    static String drawPart(int deep) {
        int k = draw(10);
        if (k < 2 && deep > 0) {
            return "[" + drawSum(deep - 1) + "]";
        }
        if (k < 5) {
            return String.valueOf(draw(4) == 0 ? between(0, 100000) : between(0, 12));
        }
        return FACTS[draw(8)];
    }

    static String drawSum(int deep) {
        StringBuilder b = new StringBuilder(drawPart(deep));
        while (draw(3) == 0) {
            b.append(draw(2) == 0 ? " " : "").append("+-**/".charAt(draw(5))).append(drawPart(deep));
        }
        return b.toString();
    }

    static String drawTest(int deep) {
        StringBuilder b = new StringBuilder();
        do {
            if (b.length() > 0) {
                b.append(draw(2) == 0 ? " or " : " and ");
            }
            while (draw(4) == 0) {
                b.append("not ");
            }
            if (deep > 0 && draw(4) == 0) {
                b.append("(").append(drawTest(deep - 1)).append(")");
            } else {
                b.append(drawSum(deep)).append("<>=".charAt(draw(3))).append(drawSum(deep));
            }
        } while (draw(3) == 0);
        return b.toString();
    }

    static String drawText() {
        StringBuilder b = new StringBuilder();
        int n = draw(12) == 0 ? 13 : between(1, 6);
        for (int c = 0; c < n; c++) {
            b.append(c > 0 ? ";" : "").append(draw(3) == 0 ? " " : "");
            int k = draw(10);
            if (k == 0) {
                int from = between(0, 200);
                b.append("window ").append(from).append(" to ").append(from + between(draw(20) == 0 ? -1 : 0, 60));
            } else if (k == 1) {
                b.append("at ").append(between(0, draw(10) == 0 ? 6 : 3));
            } else {
                b.append(k < 7 ? "pay " : "fine ").append(drawSum(n > 6 ? 0 : 3));
                if (draw(2) == 0) {
                    b.append(" if ").append(drawTest(n > 6 ? 0 : 3));
                }
            }
        }
        if (draw(12) == 0) {
            b.append(" if ").append("[".repeat(between(6, 10))).append(1);
        }
        if (draw(12) == 0) {
            b.append("; pay 1").append("+1".repeat(between(30, 60)));
        }
        for (int k = draw(3) == 0 ? 1 : 0; k > 0 && b.length() > 0; k--) {
            b.setCharAt(draw(b.length()), ";+-*/[]()<>= aif0129\u00e9Z".charAt(draw(22)));
        }
        return b.length() > 400 ? b.substring(0, 400) : b.toString();
    }

    static void feedText(Told x, Mirror m, String text) {
        same("end(0)", x.end(0), 0);
        m.tape = "";
        StringBuilder padded = new StringBuilder(text);
        while (padded.length() % 20 != 0) {
            padded.append((char) draw(256));
        }
        for (int i = 0; i < padded.length(); i += 20) {
            int[] five = new int[5];
            for (int k = 0; k < 20; k++) {
                five[k / 4] = five[k / 4] << 8 | padded.charAt(i + k);
            }
            same("feed", x.feed(five[0], five[1], five[2], five[3], five[4]), i + 20);
        }
        same("end(" + text.length() + ")", x.end(text.length()), text.length());
        m.tape = text;
        history.add("text \"" + text + "\"");
    }

    // ---------------------------------------------------------------- drawn calls

    static int wild() {
        int[] odd = {Integer.MIN_VALUE, Integer.MAX_VALUE, -1, -2, 0, 1, 6, 7, 60, 100, 2399, 2400, 200001, 500001, 10001};
        return odd[draw(odd.length)];
    }

    static int[] drawArgs(String name, State st) {
        int t = Math.max(1, st.terminals.size());
        int s = Math.max(1, st.ships.size());
        int l = Math.max(1, st.landings.size());
        int from = Math.min(2399, st.now + draw(30));
        int to = Math.min(2399, from + draw(80));
        switch (name) {
            case "terminal":
                int cap = between(0, 40000);
                return new int[] {between(0, cap), cap, between(1, draw(3) == 0 ? 5000 : 600), between(7, 16)};
            case "ship": return new int[] {draw(t), draw(2) == 0 ? between(1000, 3000) : between(1000, 200000), between(1, 50)};
            case "way": return new int[] {draw(t), draw(t), between(1, draw(4) == 0 ? 60 : 9), draw(2)};
            case "tide": return new int[] {draw(25), draw(10)};
            case "sea": return new int[] {Math.min(99, st.now / 24 + draw(3)), draw(10)};
            case "slot": return new int[] {draw(t), draw(s), from, to};
            case "broken": return new int[] {draw(t), from, Math.min(2399, from + draw(6))};
            case "terms": return new int[] {draw(101), draw(2) == 0 ? between(1, 1000) : between(1, 30)};
            case "order":
                int sort = draw(4);
                return new int[] {draw(s), sort, sort == 0 ? draw(t) : sort == 3 ? Math.min(2399, st.now + draw(9))
                    : between(1, draw(2) == 0 ? 500 : 5000)};
            case "go": return new int[] {draw(9) == 0 ? between(1, 90) : between(1, 14)};
            case "heat": return new int[] {draw(t), between(500, 2000)};
            case "price": return new int[] {Math.max(0, Math.min(99, st.now / 24 + between(-3, 2))), between(0, 10000),
                Math.min(2399, Math.max(0, st.now + between(-30, 10)))};
            case "force": return new int[] {Math.max(0, from - 30), to, Math.min(2399, Math.max(0, st.now + between(-30, 10)))};
            case "bill": return new int[] {draw(l), between(0, 5000)};
            case "settle": return new int[] {draw(l), draw(Math.max(1, st.contracts.size()))};
            case "table":
                int k = draw(4);
                return new int[] {draw(s), k, k * 100 + draw(120), k * 900 + draw(1000)};
            case "list": return new int[] {draw(s), between(-50, 50)};
            case "reading": return new int[] {draw(l), draw(2), between(0, 500), between(-20, 20),
                Math.min(2399, Math.max(0, st.now + between(-30, 10)))};
            case "cargo":
                int a = draw(4) == 0 ? between(2000, 2399) : between(0, 80);
                int c = draw(4) == 0 ? between(2000, 2399) : between(0, 150);
                return new int[] {draw(t), draw(t), a, Math.min(2399, a + draw(150)), c, Math.min(2399, c + draw(250)),
                    between(1, 2500), draw(3) == 0 ? draw(5) : between(0, 1000)};
            default: return new int[0];
        }
    }

    static void callBest(Told x, Mirror m) {
        int from = draw(12) == 0 ? wild() : draw(5) == 0 ? between(0, 2399) : between(0, 60);
        long want = -1;
        if (in(from, 0, 2399)) {
            m.best = new Best(m.st, from);
            m.best.finish();
            want = m.best.sum;
            met[11] += want > 0 ? 1 : 0;
        }
        history.add("best(" + from + ") = " + want);
        same("best(" + from + ")", x.best(from), want);
        compareVoyages(x, m);
    }

    static void callJudge(Told x, Mirror m) {
        int[] row = {between(-1, 6), between(-1, 6), between(-1, 6)};
        int ship = between(-1, 4);
        int from = draw(12) == 0 ? wild() : between(0, 60);
        long want = m.st.judge(ship, row, from);
        met[12] += want != NOTHING && row[0] != -1 ? 1 : 0;
        same("judge(" + ship + ", " + Arrays.toString(row) + ", " + from + ")",
                x.judge(ship, row[0], row[1], row[2], from), want);
    }

    static void callContract(Told x, Mirror m) {
        feedText(x, m, drawText());
        callContractAsItStands(x, m);
    }

    static void callContractAsItStands(Told x, Mirror m) {
        int had = m.tape.length();
        int want = m.contract();
        history.add("contract() = " + want + ", fault " + m.fault);
        same("contract()", x.contract(), want);
        same("fault()", x.fault(), m.fault);
        same("status()", x.status(), m.status);
        same("count(8)", x.count(8), 0);
        same("count(5)", x.count(5), m.st.contracts.size());
        met[13] += want >= 0 ? 1 : 0;
        met[14] += want == -6 ? 1 : 0;
        met[16] += want == -5 && had > 0 ? 1 : 0;
    }

    static void callImage(Told x, Mirror m) {
        callBack(x, m, draw(2) == 0, draw(8) == 0 ? wild() : draw(2));
    }

    static void callBack(Told x, Mirror m, boolean back, int k) {
        int want = back ? m.back(k) : m.image(k);
        history.add((back ? "back(" : "image(") + k + ") = " + want);
        same(back ? "back" : "image", back ? x.back(k) : x.image(k), want);
        same("status()", x.status(), m.status);
        met[15] += back && want == 0 ? 1 : 0;
    }

    static final String[] OFTEN = {"order", "order", "order", "order", "order", "order", "go", "go", "go", "go", "go", "slot", "slot",
        "slot", "cargo", "cargo", "way", "reading", "reading", "table", "table", "price", "settle", "bill"};

    static void oneRun(int calls) {
        Told x = new Told();
        Mirror m = new Mirror();
        history.clear();
        int terminals = between(1, 5);
        for (int t = 0; t < terminals; t++) {
            both(x, m, "terminal", drawArgs("terminal", m.st));
        }
        for (int s = between(0, 4); s > 0; s--) {
            both(x, m, "ship", drawArgs("ship", m.st));
        }
        for (int a = 0; a < terminals; a++) {
            for (int b = 0; b < a; b++) {
                if (draw(6) > 0) {
                    both(x, m, "way", a, b, between(1, 12), draw(2));
                }
            }
        }
        for (int n = 0; n < calls && wrong < 20 && x.room() > 150; n++) {
            int k = draw(60);
            if (k == 0) {
                callBest(x, m);
            } else if (k <= 2) {
                callJudge(x, m);
            } else if (k == 3) {
                callContract(x, m);
            } else if (k == 4) {
                callImage(x, m);
            } else if (k == 5) {
                compare(x, m);
            } else if (k < 16) {
                String name = NAMES[draw(NAMES.length)];
                if (!name.equals("clear") || draw(4) == 0) {
                    int[] args = drawArgs(name, m.st);
                    if (args.length > 0 && draw(3) == 0) {
                        args[draw(args.length)] = wild();
                    }
                    both(x, m, name, args);
                }
            } else {
                String name = OFTEN[draw(OFTEN.length)];
                both(x, m, name, drawArgs(name, m.st));
            }
        }
        compare(x, m);
    }

    /** A TAPE that is fed, cut and read till there is no more room for CONTRACTS, and gone back from. */
    static void oneTape() {
        Told x = new Told();
        Mirror m = new Mirror();
        history.clear();
        for (int n = 0; n < 120 && wrong < 20 && x.room() > 60; n++) {
            int k = draw(12);
            if (k < 3) {
                feedText(x, m, "pay " + between(0, 100_000));
                callContractAsItStands(x, m);
            } else if (k < 5) {
                callContract(x, m);
            } else if (k < 7) {
                callContractAsItStands(x, m);
            } else if (k < 10) {
                callFeed(x, m);
            } else if (k < 11) {
                callEnd(x, m);
            } else if (draw(4) == 0) {
                callImage(x, m);
            }
        }
        compare(x, m);
    }

    static void callFeed(Told x, Mirror m) {
        int[] five = new int[5];
        StringBuilder bytes = new StringBuilder();
        for (int i = 0; i < 5; i++) {
            five[i] = wild();
            for (int shift = 24; shift >= 0; shift -= 8) {
                bytes.append((char) (five[i] >> shift & 255));
            }
        }
        boolean room = m.tape.length() + 20 <= 400;
        if (room) {
            m.tape = m.tape + bytes;
        }
        int want = room ? m.tape.length() : -1;
        history.add("feed(" + Arrays.toString(five) + ") = " + want);
        same("feed", x.feed(five[0], five[1], five[2], five[3], five[4]), want);
    }

    static void callEnd(Told x, Mirror m) {
        int n = draw(3) == 0 ? wild() : between(-1, m.tape.length() + 1);
        int want = -1;
        if (in(n, 0, m.tape.length())) {
            m.tape = m.tape.substring(0, n);
            want = n;
        }
        history.add("end(" + n + ") = " + want);
        same("end(" + n + ")", x.end(n), want);
    }

    /** Ships that go round with gas of several terminals, so that PARTS, TURNS and LANDINGS come in plenty. */
    static void oneTrade() {
        Told x = new Told();
        Mirror m = new Mirror();
        history.clear();
        build(x, m, 60, 4);
        trade(x, m, 60);
    }

    /** All is gone back to from where other terminals and ships stand under the same numbers. */
    static void oneRebuilt() {
        Told x = new Told();
        Mirror m = new Mirror();
        history.clear();
        callBack(x, m, false, 0);
        build(x, m, 24, 1);
        trade(x, m, between(1, 8));
        callBack(x, m, false, 1);
        callBack(x, m, true, 0);
        compare(x, m);
        build(x, m, 24, 1);
        compare(x, m);
        trade(x, m, between(1, 8));
        callBack(x, m, true, 1);
        compare(x, m);
        trade(x, m, 6);
    }

    static void build(Told x, Mirror m, int slots, int contracts) {
        int terminals = between(2, 6);
        for (int t = 0; t < terminals; t++) {
            int cap = between(500, 60000);
            both(x, m, "terminal", between(0, cap), cap, between(1, 900), between(8, 20));
            both(x, m, "heat", t, between(500, 2000));
        }
        int ships = between(1, 6);
        for (int s = 0; s < ships; s++) {
            both(x, m, "ship", draw(terminals), between(1000, draw(2) == 0 ? 2000 : 20000), between(1, 50));
        }
        for (int a = 0; a < terminals; a++) {
            for (int b = 0; b < a; b++) {
                both(x, m, "way", a, b, between(1, 20), draw(3) > 0 ? 1 : 0);
            }
        }
        int[] limits = {9, 19, 49, 99, 199, 499, 999, 1000};
        both(x, m, "terms", draw(3) == 0 ? 0 : between(0, 100),
                draw(2) == 0 ? limits[draw(8)] : between(1, draw(2) == 0 ? 20 : 1000));
        for (int n = 0; n < slots; n++) {
            int from = n / terminals * 12;
            both(x, m, "slot", n % terminals, ships == 1 ? 0 : draw(ships), from, from + 11);
        }
        for (int day = 0; day < 10; day++) {
            both(x, m, "sea", day, draw(10));
        }
        both(x, m, "tide", draw(25), draw(10));
        for (int n = 0; n < contracts; n++) {
            callContract(x, m);
        }
    }

    static void trade(Told x, Mirror m, int steps) {
        for (int n = 0; n < steps && wrong < 20 && x.room() > 120; n++) {
            int ships = m.st.ships.size();
            int terminals = m.st.terminals.size();
            for (int s = 0; s < ships && n % 3 == 0; s++) {
                both(x, m, "order", s, 1, between(1, 2500));
                both(x, m, "order", s, 0, draw(terminals));
                both(x, m, "order", s, draw(2) == 0 ? 1 : 2, between(1, 2500));
                if (draw(3) == 0) {
                    both(x, m, "order", s, 3, Math.min(2399, m.st.now + draw(8)));
                }
            }
            both(x, m, "go", between(1, 6));
            String name = NAMES[draw(NAMES.length)];
            both(x, m, name, drawArgs(name, m.st));
            compare(x, m);
            if (draw(20) == 0) {
                callImage(x, m);
            }
        }
    }

    /** Cargoes in plenty, so that many rows of voyages can be. */
    static void oneFleet() {
        Told x = new Told();
        Mirror m = new Mirror();
        history.clear();
        int terminals = between(2, 4);
        for (int t = 0; t < terminals; t++) {
            both(x, m, "terminal", 0, 100, between(50, 400), 10);
        }
        int ships = between(1, 4);
        for (int s = 0; s < ships; s++) {
            both(x, m, "ship", draw(terminals), between(1000, 3000), draw(3) == 0 ? 1 : between(1, 9));
        }
        for (int a = 0; a < terminals; a++) {
            for (int b = 0; b < a; b++) {
                both(x, m, "way", a, b, draw(3) == 0 ? 5 : between(1, 30), 0);
            }
        }
        both(x, m, "terms", draw(2) == 0 ? 0 : between(0, 100), 700);
        for (int n = draw(6); n > 0; n--) {
            int from = draw(80);
            both(x, m, "broken", draw(terminals), from, from + draw(12));
        }
        int alike = draw(2) * between(1, 1000);
        for (int n = between(1, 6); n > 0; n--) {
            int from = draw(terminals);
            int a = draw(50);
            int c = draw(90);
            both(x, m, "cargo", from, (from + 1 + draw(terminals - 1)) % terminals, a, a + draw(120), c, c + draw(200),
                    alike > 0 ? alike : between(1, 1500), draw(3) == 0 ? draw(3) * 5 : between(0, 60));
        }
        callBest(x, m);
        for (int n = 0; n < 5; n++) {
            callJudge(x, m);
        }
    }

    /** Few sorts of cargoes, so that many rows have the same WORTH. */
    static void alikeFleet() {
        Told x = new Told();
        Mirror m = new Mirror();
        history.clear();
        int terminals = between(2, 3);
        for (int t = 0; t < terminals; t++) {
            both(x, m, "terminal", 0, 100, 100, 10);
        }
        for (int s = between(1, 3); s > 0; s--) {
            both(x, m, "ship", draw(terminals), 1000, between(1, 2));
        }
        for (int a = 0; a < terminals; a++) {
            for (int b = 0; b < a; b++) {
                both(x, m, "way", a, b, between(1, 2), 0);
            }
        }
        both(x, m, "terms", 0, 700);
        for (int n = between(2, 6); n > 0; n--) {
            int from = draw(terminals);
            int a = draw(3) * 4;
            int c = draw(4) * 5;
            both(x, m, "cargo", from, (from + 1) % terminals, a, a + draw(3) * 5, c, c + 8, 100, between(1, 5));
        }
        callBest(x, m);
    }

    /** What a BEST has at the most: three ships, six cargoes, all rows can be. */
    static void widestFleet() {
        Told x = new Told();
        Mirror m = new Mirror();
        for (int t = 0; t < 3; t++) {
            both(x, m, "terminal", 0, 100, 100, 10);
        }
        for (int s = 0; s < 4; s++) {
            both(x, m, "ship", s % 3, 1000, 1);
        }
        both(x, m, "way", 0, 1, 2, 0);
        both(x, m, "way", 1, 2, 2, 0);
        both(x, m, "way", 0, 2, 2, 0);
        for (int c = 0; c < 6; c++) {
            both(x, m, "cargo", c % 3, (c + 1) % 3, 0, 900, 0, 900, 300, 10);
        }
        callBest(x, m);
    }

    public static void main(String[] args) {
        for (run = 1; run <= 800 && wrong < 20; run++) {
            oneRun(between(60, 480));
        }
        for (; run <= 1800 && wrong < 20; run++) {
            oneFleet();
        }
        for (; run <= 2300 && wrong < 20; run++) {
            oneTrade();
        }
        for (; run <= 2800 && wrong < 20; run++) {
            oneRebuilt();
        }
        for (; run <= 6800 && wrong < 20; run++) {
            alikeFleet();
        }
        for (int n = 0; n < 3000 && wrong < 20; n++, run++) {
            history.clear();
            callContract(new Told(), new Mirror());
        }
        for (int n = 0; n < 400 && wrong < 20; n++, run++) {
            oneTape();
        }
        widestFleet();
        for (int n = 0; n < met.length; n++) {
            if (met[n] == 0) {
                wrong++;
                System.out.println("the runs have never met what is counted as " + n);
            }
        }
        System.out.println("met: " + Arrays.toString(met));
        System.out.println(wrong == 0 ? "all answers are as due" : wrong + " answers are not as due");
        if (wrong != 0) {
            System.exit(1);
        }
    }
}
