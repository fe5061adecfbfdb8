import java.util.ArrayList;
import java.util.List;
import java.util.function.LongSupplier;

/** What an object answers when it is asked everything: two that answer alike are in the same state. */
final class State {
    private static final long DOES_NOT_ANSWER = Long.MIN_VALUE;

    private final DutyCase x;
    private final List<Long> answers = new ArrayList<>();

    private State(DutyCase x) {
        this.x = x;
    }

    /**
     * All but the TAPE and fault(). An object of two models, two firms and eight sales is asked some 250 times
     * here and 200 times below, so that it stays within the 512 calls that it is promised for.
     */
    static List<Long> of(DutyCase x) {
        State s = new State(x);
        s.askCounts();
        s.askNames();
        for (int sale = 0; sale < x.count(2); sale++) {
            s.askSale(sale);
        }
        for (int firm = 0; firm < x.count(1); firm++) {
            s.askFirm(firm);
        }
        return s.answers;
    }

    /** The acts that are kept, by undoing them all: the object is spent. */
    static List<Long> ofActs(DutyCase x) {
        State s = new State(x);
        for (int act = 0; act < 17; act++) {
            s.ask(x::undo);
            for (int what = 2; what < 10; what++) {
                int which = what;
                s.ask(() -> x.count(which));
            }
        }
        return s.answers;
    }

    /** The TAPE, by its length and by what it reads as: the object is spent. */
    static List<Long> ofTape(DutyCase x) {
        State s = new State(x);
        s.ask(() -> x.feed(0, 0, 0, 0, 0));
        s.ask(() -> x.end((int) (s.answers.get(0) - 20)) ? 1 : 0);
        s.ask(x::read);
        s.ask(x::fault);
        s.askCounts();
        s.askNames();
        return s.answers;
    }

    private void ask(LongSupplier call) {
        long answer;
        try {
            answer = call.getAsLong();
        } catch (RuntimeException e) {
            answer = DOES_NOT_ANSWER;
        }
        answers.add(answer);
    }

    private void askCounts() {
        for (int what = 0; what < 13; what++) {
            answers.add((long) x.count(what));
        }
        int bytes = x.count(11);
        for (int k = 0; k < bytes; k++) {
            answers.add((long) x.octet(k));
        }
        answers.add((long) x.others());
        int firms = x.count(1);
        for (int k = 0; k < firms; k++) {
            answers.add((long) x.ranked(k));
        }
    }

    private void askNames() {
        for (int i = 0; i < x.count(0); i++) {
            answers.add((long) x.name(false, i, 0));
            for (int what = 0; what < 3; what++) {
                answers.add((long) x.model(i, what));
            }
        }
        for (int i = 0; i < x.count(1); i++) {
            answers.add((long) x.name(true, i, 0));
        }
    }

    private void askSale(int sale) {
        for (int what = 0; what < 11; what++) {
            int which = what;
            ask(() -> x.sale(sale, which));
        }
        ask(() -> x.weight(sale));
        ask(() -> x.match(sale));
        ask(() -> x.difference(sale, 1));
        ask(() -> x.collected(sale, false));
    }

    private void askFirm(int firm) {
        for (int model = 0; model < x.count(0); model++) {
            answers.add((long) x.cost(firm, model));
            answers.add((long) x.below(firm, model, 1));
            answers.add(x.worth(firm, model, 1, 2));
            answers.add((long) x.found(firm, model, 1, 1));
        }
        for (int method = 0; method < 3; method++) {
            answers.add(x.sum(firm, method, true));
            answers.add((long) x.margin(firm, method, false));
        }
        for (int what = 0; what < 4; what++) {
            answers.add((long) x.duty(firm, what));
        }
        answers.add((long) x.base(firm));
        answers.add((long) x.groups(firm));
        answers.add(x.value(firm));
        answers.add((long) x.picked(firm));
        answers.add(x.back(firm));
        answers.add((long) x.heaviest(firm, true));
        answers.add(x.negligible(firm) ? 1L : 0L);
    }
}
