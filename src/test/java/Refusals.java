/** Calls that are refused: each throws what is due, and leaves all as it is with a twin that was never called so. */
final class Refusals {
    private final Check check;

    /** One call, whatever it answers. */
    interface Call {
        Object on(DutyCase x);
    }

    /** A call with a number that may be none. */
    interface Numbered {
        Object on(DutyCase x, int number);
    }

    Refusals(Check check) {
        this.check = check;
    }

    /**
     * Two models, two firms (the second was silent), eight sales: exports 3, 4 and 7 of the first firm (in three
     * groups, also by months), 5 of the second, 6 dropped. Sixteen acts are kept, the fault is 12, the first firm is
     * written, and "firm v;step 8;" stands on the tape: whatever a refused call might change shows.
     */
    static DutyCase busy() {
        DutyCase x = Check.told("model a 100 5 150;model b 110 7 0;firm x;firm y;silent y;step 3;"
                + "adjust export p/9-l+c/50;cost y a 90;"
                + "sell home x a 1 2 10 120;sell home x b 3 2 30 140;sell third y a 1 5 10 130;"
                + "sell export x a 2 2 10 100;sell export x b 2 3 5 90;sell export y b 0 0 5 150;");
        for (int what = 0; what < 5; what++) {
            x.set(what, what == 4 ? 20 : 1);
        }
        x.put(0, 1, 1, 0, 0, 3, 140);
        x.put(1, 0, 0, 1, 11, 3, 150);
        x.price(7, 101);
        x.costs(0, 0, 99);
        x.silent(0, true);
        x.silent(0, false);
        x.set(0, 2);
        x.set(5, 4);
        x.drop(6);
        x.set(2, 0);
        x.price(0, 125);
        Check.end(x, "firm z;firm z;");
        try {
            x.read();
        } catch (IllegalArgumentException e) {
            x.write(0);
        }
        Check.end(x, "firm v;step 8;");
        return x;
    }

    void refused(Class<? extends RuntimeException> kind, String what, Call call) {
        DutyCase x = busy();
        DutyCase y = busy();
        check.thrown(what, kind, () -> call.on(x));
        check.due(what + ": fault", x.fault(), y.fault());
        sameState(what, x, y);
    }

    /** Both are spent by it. */
    void sameState(String what, DutyCase x, DutyCase y) {
        check.due(what + ": all answers", State.of(x).equals(State.of(y)), true);
        check.due(what + ": acts", State.ofActs(x).equals(State.ofActs(y)), true);
        check.due(what + ": the tape", State.ofTape(x).equals(State.ofTape(y)), true);
    }

    /** The last numbers are taken, those beside them refused, and so are the farthest. */
    void bounds(Class<? extends RuntimeException> kind, String what, int least, int most, Numbered call) {
        for (int number : new int[] {least, most}) {
            boolean isTaken = true;
            try {
                call.on(busy(), number);
            } catch (RuntimeException e) {
                isTaken = false;
            }
            check.due(what + " with " + number + " being taken", isTaken, true);
        }
        for (int number : new int[] {least - 1, most + 1, Integer.MIN_VALUE, Integer.MAX_VALUE}) {
            refused(kind, what + " with " + number, x -> call.on(x, number));
        }
    }
}
