import java.util.function.LongSupplier;

/** What the tests share: telling texts, and comparing answers with those that are due. */
final class Check {
    private int wrong;
    private int asked;
    private String about = "";

    /** An act's answer, where only its exception matters. */
    interface Act {
        void run();
    }

    static boolean end(DutyCase x, String text) {
        for (int at = 0; at < text.length(); at += 20) {
            x.feed(four(text, at), four(text, at + 4), four(text, at + 8), four(text, at + 12), four(text, at + 16));
        }
        return x.end(text.length());
    }

    static int four(String text, int at) {
        int n = 0;
        for (int k = at; k < at + 4; k++) {
            n = n << 8 | (k < text.length() ? text.charAt(k) : 0);
        }
        return n;
    }

    static DutyCase told(String text) {
        DutyCase x = new DutyCase();
        end(x, text);
        x.read();
        return x;
    }

    /** What the answers that follow are about: told with each that is not as due. */
    void about(String what) {
        about = what + ": ";
    }

    int asked() {
        return asked;
    }

    void due(String what, long got, long want) {
        asked++;
        if (got != want) {
            wrong++;
            System.out.println(about + what + " answered " + got + ", due is " + want);
        }
    }

    void due(String what, boolean got, boolean want) {
        due(what, got ? 1 : 0, want ? 1 : 0);
    }

    /** Exactly that class: one below it would be the machine's. */
    void thrown(String what, Class<? extends RuntimeException> due, Act act) {
        asked++;
        String got = "nothing";
        try {
            act.run();
        } catch (RuntimeException e) {
            got = e.getClass().getName();
        }
        if (!got.equals(due.getName())) {
            wrong++;
            System.out.println(about + what + " threw " + got + ", due is " + due.getName());
        }
    }

    void thrown(Class<? extends RuntimeException> due, LongSupplier call, String what) {
        thrown(what, due, call::getAsLong);
    }

    void finish() {
        System.out.println(asked + " answers asked for, " + wrong + " not as due");
        if (wrong != 0) {
            System.exit(1);
        }
    }
}
