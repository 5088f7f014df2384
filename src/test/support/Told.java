import java.util.ArrayList;
import java.util.List;

/**
 * A run of calls that keeps to the 512 that the document promises for an object: calls that change something are kept,
 * and when the object at hand has had its 512, they are done again on a new one, of which is asked from then on.
 */
final class Told {
    static final int MOST_CALLS = 512;

    /** A call on an object. */
    interface Call {
        long on(ColdShips x);
    }

    private final List<Call> told = new ArrayList<>();
    private final List<Long> answers = new ArrayList<>();
    private ColdShips x = new ColdShips();
    private int calls;

    /** Another run that has had the same calls. */
    Told copy() {
        Told other = new Told();
        for (Call call : told) {
            other.tell(call);
        }
        return other;
    }

    /** How many calls that change something there may still be. */
    int room() {
        return MOST_CALLS - told.size();
    }

    /** How many calls the object at hand has had. */
    int calls() {
        return calls;
    }

    long tell(Call call) {
        if (told.size() >= MOST_CALLS) {
            throw new IllegalStateException("a run has at most 512 calls");
        }
        anewIfSpent();
        calls++;
        long answer = call.on(x);
        told.add(call);
        answers.add(answer);
        return answer;
    }

    long ask(Call call) {
        if (told.size() >= MOST_CALLS && calls >= MOST_CALLS) {
            throw new IllegalStateException("a run has at most 512 calls");
        }
        anewIfSpent();
        calls++;
        return call.on(x);
    }

    private void anewIfSpent() {
        if (calls < MOST_CALLS) {
            return;
        }
        x = new ColdShips();
        for (int n = 0; n < told.size(); n++) {
            if (told.get(n).on(x) != answers.get(n)) {
                throw new IllegalStateException("call " + n + " answers otherwise when it is done again");
            }
        }
        calls = told.size();
    }

    int terminal(int store, int cap, int rate, int depth) {
        return (int) tell(o -> o.terminal(store, cap, rate, depth));
    }

    int ship(int terminal, int cap, int fuel) {
        return (int) tell(o -> o.ship(terminal, cap, fuel));
    }

    int way(int a, int b, int hours, boolean canal) {
        return (int) tell(o -> o.way(a, b, hours, canal));
    }

    int tide(int rest, int more) {
        return (int) tell(o -> o.tide(rest, more));
    }

    int sea(int day, int sea) {
        return (int) tell(o -> o.sea(day, sea));
    }

    int slot(int terminal, int ship, int from, int to) {
        return (int) tell(o -> o.slot(terminal, ship, from, to));
    }

    int broken(int terminal, int from, int to) {
        return (int) tell(o -> o.broken(terminal, from, to));
    }

    int terms(int boils, int limit) {
        return (int) tell(o -> o.terms(boils, limit));
    }

    int order(int ship, int sort, int what) {
        return (int) tell(o -> o.order(ship, sort, what));
    }

    int go(int hours) {
        return (int) tell(o -> o.go(hours));
    }

    int of(int ship, int what) {
        return (int) ask(o -> o.of(ship, what));
    }

    int part(int ship, int terminal) {
        return (int) ask(o -> o.part(ship, terminal));
    }

    long book(int ship, int what) {
        return ask(o -> o.book(ship, what));
    }

    int store(int terminal) {
        return (int) ask(o -> o.store(terminal));
    }

    int landing(int landing, int what) {
        return (int) ask(o -> o.landing(landing, what));
    }

    int led(int landing, int terminal) {
        return (int) ask(o -> o.led(landing, terminal));
    }

    int heat(int terminal, int heat) {
        return (int) tell(o -> o.heat(terminal, heat));
    }

    int price(int day, int price, int known) {
        return (int) tell(o -> o.price(day, price, known));
    }

    int force(int from, int to, int known) {
        return (int) tell(o -> o.force(from, to, known));
    }

    int bill(int landing, int tons) {
        return (int) tell(o -> o.bill(landing, tons));
    }

    int feed(int a, int b, int c, int d, int e) {
        return (int) tell(o -> o.feed(a, b, c, d, e));
    }

    int end(int n) {
        return (int) tell(o -> o.end(n));
    }

    int contract() {
        return (int) tell(o -> o.contract());
    }

    int fault() {
        return (int) ask(o -> o.fault());
    }

    long due(int landing, int contract, int known, int what) {
        return ask(o -> o.due(landing, contract, known, what));
    }

    int settle(int landing, int contract) {
        return (int) tell(o -> o.settle(landing, contract));
    }

    long settled(int landing, int what) {
        return ask(o -> o.settled(landing, what));
    }

    int table(int ship, int k, int centimetres, int tons) {
        return (int) tell(o -> o.table(ship, k, centimetres, tons));
    }

    int list(int ship, int list) {
        return (int) tell(o -> o.list(ship, list));
    }

    int reading(int landing, int which, int centimetres, int trim, int known) {
        return (int) tell(o -> o.reading(landing, which, centimetres, trim, known));
    }

    long gauged(int landing, int known, int what) {
        return ask(o -> o.gauged(landing, known, what));
    }

    int cargo(int from, int to, int a, int b, int c, int d, int tons, int price) {
        return (int) tell(o -> o.cargo(from, to, a, b, c, d, tons, price));
    }

    int clear() {
        return (int) tell(o -> o.clear());
    }

    long best(int from) {
        return tell(o -> o.best(from));
    }

    long voyage(int cargo, int what) {
        return ask(o -> o.voyage(cargo, what));
    }

    long judge(int ship, int a, int b, int c, int from) {
        return ask(o -> o.judge(ship, a, b, c, from));
    }

    int image(int k) {
        return (int) tell(o -> o.image(k));
    }

    int back(int k) {
        return (int) tell(o -> o.back(k));
    }

    int count(int what) {
        return (int) ask(o -> o.count(what));
    }

    int status() {
        return (int) ask(o -> o.status());
    }
}
