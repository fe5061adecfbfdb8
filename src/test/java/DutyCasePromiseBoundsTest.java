import java.io.IOException;
import java.util.NoSuchElementException;

/** Each sentence of the document's promises, at its bounds: the last that is taken, the first that is not. */
public final class DutyCasePromiseBoundsTest {
    private static final int NONE = DutyCase.NONE;
    private static final int HOME = 0;
    private static final int EXPORT = 1;
    private static final int THIRD = 2;
    private static final int METHOD = 0;
    private static final int ZEROING = 1;
    private static final int LESSER = 2;
    private static final int BY_MONTHS = 3;
    private static final int PROFIT = 4;
    private static final int STEP = 5;
    private static final int BLANKS = 0x20202020;
    private static final Class<IllegalArgumentException> NUMBER = IllegalArgumentException.class;
    private static final Class<NoSuchElementException> NO_WHAT = NoSuchElementException.class;

    /** Two models of cost 100 and four firms, for sales put in by the test; without profit. */
    private static final String PLAIN = "profit 0;model a 100 0 0;model b 100 0 0;firm w;firm x;firm y;firm z;";

    private final Check check = new Check();
    private final Refusals refusals = new Refusals(check);
    private final Sentences sentences;
    private int promise;

    private DutyCasePromiseBoundsTest() throws IOException {
        sentences = new Sentences(check);
    }

    public static void main(String[] args) throws IOException {
        DutyCasePromiseBoundsTest t = new DutyCasePromiseBoundsTest();
        t.theText();
        t.whatWasTold();
        t.acts();
        t.worths();
        t.margins();
        t.duties();
        t.reports();
        t.sentences.finish("Promise");
        t.check.finish();
    }

    private void theText() {
        newObject();
        feed();
        feedOfTooMuch();
        end();
        read();
        readOfWrongText();
        fault();
    }

    private void whatWasTold() {
        name();
        model();
        cost();
        sale();
    }

    private void acts() {
        put();
        putOfWrongOnes();
        drop();
        price();
        costs();
        set();
        silent();
        undo();
    }

    private void worths() {
        base();
        below();
        worth();
        found();
        match();
    }

    private void margins() {
        difference();
        groups();
        group();
        sum();
        value();
        margin();
    }

    private void duties() {
        negligible();
        duty();
        others();
        method();
        undertaking();
        picked();
        collected();
        back();
        weight();
        heaviest();
    }

    private void reports() {
        ranked();
        write();
        octet();
        count();
    }

    private void says(int number, String quote) {
        promise = number;
        more(quote);
    }

    /** Another sentence of the same promise. */
    private void more(String quote) {
        sentences.says("Promise " + promise, quote);
    }

    private void due(String what, long got, long want) {
        check.due(what, got, want);
    }

    private void due(String what, boolean got, boolean want) {
        check.due(what, got, want);
    }

    private static DutyCase told(String text) {
        return Check.told(text);
    }

    // ---- the text

    private void newObject() {
        says(1, "No MODELS, no FIRMS.");
        DutyCase x = new DutyCase();
        due("models", x.count(0), 0);
        due("firms", x.count(1), 0);
        check.thrown(IndexOutOfBoundsException.class, () -> x.model(0, 0), "a model");
        check.thrown(IndexOutOfBoundsException.class, () -> x.base(0), "a firm");
        due("ranked", x.ranked(0), NONE);
        DutyCase y = told("firm x;model a 1 1 1;");
        due("another object's firms", new DutyCase().count(1) + x.count(1), 0);
        due("its own", y.count(1), 1);
    }

    private void feed() {
        says(2, "Twenty bytes come behind the TAPE, of each number the highest first: how many it has");
        DutyCase x = new DutyCase();
        due("the first twenty", x.feed(0x6669726d, 0x20616263, 0x6465663b, 0x73746570, 0x2039393b), 20);
        due("twenty more", x.feed(0x6669726d, 0x20750a3b, BLANKS, BLANKS, 0x20202020), 40);
        due("read", x.read(), 0);
        for (int k = 0; k < 6; k++) {
            due("letter " + k, x.name(true, 0, k), 'a' + k);
        }
        due("the second firm", x.name(true, 1, 0), 'u');
        due("step", x.count(9), 99);
        for (int k = 0; k < 20; k++) {
            int[] five = {BLANKS, BLANKS, BLANKS, BLANKS, BLANKS};
            five[k / 4] ^= 0xff000000 >>> 8 * (k % 4);
            DutyCase y = new DutyCase();
            y.feed(BLANKS, BLANKS, BLANKS, BLANKS, BLANKS);
            y.feed(five[0], five[1], five[2], five[3], five[4]);
            check.thrown(NUMBER, y::read, "a wrong byte at " + k);
            due("its place", y.fault(), 20 + k);
        }
    }

    private static DutyCase blanksFed(int many) {
        DutyCase x = new DutyCase();
        Check.end(x, " ".repeat(many));
        return x;
    }

    private void feedOfTooMuch() {
        says(2, "NONE, and none come, if it would have more than 400.");
        for (int has : new int[] {0, 1, 19, 20, 360, 379, 380}) {
            due("behind " + has, blanksFed(has).feed(BLANKS, BLANKS, BLANKS, BLANKS, BLANKS), has + 20);
        }
        for (int has : new int[] {381, 390, 399, 400}) {
            DutyCase x = blanksFed(has);
            due("behind " + has, x.feed(0, 0, 0, 0, 0), NONE);
            due("again behind " + has, x.feed(0, 0, 0, 0, 0), NONE);
            due("none came", x.end(has + 1), false);
            due("all is there", x.end(has), true);
            due("as it was", x.read(), 0);
            due("empty again", x.feed(0, 0, 0, 0, 0), 20);
        }
    }

    private void end() {
        says(3, "The TAPE has its first n bytes alone: true");
        DutyCase x = new DutyCase();
        due("nothing of nothing", x.end(0), true);
        x.feed(0x6669726d, 0x20780a3b, 0x6669726d, 0x20790a3b, 0);
        due("all", x.end(20), true);
        due("the first ones", x.end(16), true);
        due("fewer", x.end(8), true);
        due("come behind them", x.feed(0x6669726d, 0x207a0a3b, BLANKS, BLANKS, BLANKS), 28);
        due("read", x.read(), 0);
        due("firms", x.count(1), 2);
        due("the second", x.name(true, 1, 0), 'z');
        x.feed(0, 0, 0, 0, 0);
        due("none of them", x.end(0), true);
        due("read of none", x.read(), 0);

        more("false, and nothing happens, if it has fewer, or n is below 0.");
        DutyCase y = new DutyCase();
        due("one of none", y.end(1), false);
        y.feed(0x6669726d, 0x20780a3b, BLANKS, BLANKS, BLANKS);
        for (int n : new int[] {21, 400, Integer.MAX_VALUE, -1, -20, Integer.MIN_VALUE}) {
            due("end " + n, y.end(n), false);
        }
        due("all is there", y.feed(BLANKS, BLANKS, BLANKS, BLANKS, BLANKS), 40);
        due("as it was", y.read(), 0);
        due("a firm", y.name(true, 0, 0), 'x');
    }

    private void read() {
        says(4, "Uses the TAPE up: it is THE TEXT (in place of all; METHOD, ZEROING, LESSER, BY MONTHS are as at first,"
                + " nothing can be undone): how many SALES.");
        DutyCase x = Refusals.busy();
        due("read", x.read(), 0);
        due("the tape is used up", x.end(1), false);
        int[] counts = {0, 1, 0, 0, 0, 0, 0, 0, 10, 8, 0};
        for (int what = 0; what < counts.length; what++) {
            due("count " + what, x.count(what), counts[what]);
        }
        due("none was silent", x.count(12), 0);
        due("undo", x.undo(), NONE);
        due("the firm", x.name(true, 0, 0), 'v');
        due("read of nothing", x.read(), 0);
        due("no firm", x.count(1), 0);
        DutyCase most = new DutyCase();
        Check.end(most, "model a1 0 0;firm x;" + "sell home x a0 0 1 1;".repeat(18));
        due("as many sales as fit", most.read(), 18);
        Check.end(most, "model a1 0 0;firm x;sell home x a0 0 1 1;");
        due("one sale", most.read(), 1);
        due("it alone", most.count(2), 1);
        afterFullOne();
    }

    /** All places full, then a text, and that again: none of what was there shows in the same places. */
    private void afterFullOne() {
        DutyCase x = new DutyCase();
        fill(x);
        for (int round = 0; round < 3; round++) {
            Check.end(x, sixModels() + "firm w;firm x;firm y;firm z;");
            due("read", x.read(), 0);
            int[] counts = {6, 4, 0, 0, 0, 0, 0, 0, 10, 0, 0, 0, 0};
            for (int what = 0; what < counts.length; what++) {
                due("count " + what, x.count(what), counts[what]);
            }
            for (int place = 0; place < 24; place++) {
                due("cost " + place, x.cost(place / 6, place % 6), 7);
            }
            for (int market = 0; market < 3; market++) {
                due("its number", x.put(market, 0, 0, 0, 0, 1, 8), market);
                due("off", x.sale(market, 7), 0);
            }
            due("value", x.value(0), 8000);
        }
        DutyCase y = new DutyCase();
        for (int round = 0; round < 6; round++) {
            Check.end(y, "firm x;model a 7 1 1;adjust home 1" + "+q".repeat(160) + ";sell home x a 0 0 2 999;");
            due("read", y.read(), 1);
            due("off of a long sum", y.sale(0, 7), 321);
        }
    }

    private static void fill(DutyCase x) {
        Check.end(x, "adjust home 1;adjust export 2;adjust third 3;" + sixModels() + "firm w;firm x;firm y;firm z;"
                + "silent w;silent x;silent y;silent z;step 9;profit 9;");
        x.read();
        for (int n = 0; n < 40; n++) {
            x.put(n % 3, n % 4, n % 6, 3, 11, 999, 9999);
        }
        for (int place = 0; place < 24; place++) {
            x.costs(place / 6, place % 6, 9999);
        }
        for (int what = 0; what < 6; what++) {
            x.set(what, 1);
        }
    }

    private static String sixModels() {
        String six = "";
        for (char name = 'a'; name < 'g'; name++) {
            six += "model " + name + " 7 1 1;";
        }
        return six;
    }

    private void readOfWrongText() {
        says(4, "IllegalArgumentException: the text is wrong.");
        DutyCase x = Refusals.busy();
        DutyCase y = Refusals.busy();
        due("cut", x.end(13), true);
        check.thrown(NUMBER, x::read, "a text without its end");
        due("fault", x.fault(), 13);
        due("the tape is used up", x.end(1), false);
        y.end(0);
        refusals.sameState("a wrong text", x, y);
    }

    private void fault() {
        says(5, "THE FAULT of the latest read()");
        DutyCase x = new DutyCase();
        faultIs(x, "step 100;", 5);
        faultIs(x, "firm x;firm x;", 12);
        faultIs(x, "#", 0);
        faultIs(x, " ".repeat(399) + "#", 399);
        faultIs(x, " ".repeat(396) + "step", 400);
        due("it stays", x.fault(), 400);
        x.feed(0, 0, 0, 0, 0);
        x.end(0);
        x.set(STEP, 5);
        due("it stays over other calls", x.fault(), 400);

        more("NONE without one, and ahead of any.");
        due("ahead of any", new DutyCase().fault(), NONE);
        DutyCase fed = new DutyCase();
        Check.end(fed, "#");
        due("ahead of any, a wrong text fed", fed.fault(), NONE);
        due("read of nothing", x.read(), 0);
        due("without one", x.fault(), NONE);
        faultIs(x, "#", 0);
        Check.end(x, "firm x;");
        x.read();
        due("without one", x.fault(), NONE);
    }

    private void faultIs(DutyCase x, String text, int at) {
        Check.end(x, text);
        check.thrown(NUMBER, x::read, text);
        due("fault of " + text, x.fault(), at);
    }

    // ---- what was told

    private void name() {
        says(6, "Letter k (its byte) of the NAME of a MODEL (firm false), a FIRM (true); NONE behind it.");
        DutyCase x = told("model z 1 1 1;model abcdef 1 1 1;firm uvwxyz;firm a;");
        for (int k = 0; k < 6; k++) {
            due("letter " + k + " of a model", x.name(false, 1, k), 'a' + k);
            due("letter " + k + " of a firm", x.name(true, 0, k), 'u' + k);
        }
        due("the only letter of a model", x.name(false, 0, 0), 'z');
        due("the only letter of a firm", x.name(true, 1, 0), 'a');
        for (int k : new int[] {6, 7, 400, Integer.MAX_VALUE}) {
            due("behind six letters " + k, x.name(false, 1, k), NONE);
            due("behind six letters " + k, x.name(true, 0, k), NONE);
        }
        due("behind one letter", x.name(false, 0, 1), NONE);
        due("behind one letter", x.name(true, 1, 1), NONE);
        // The document tells nothing of a letter ahead of the first: there is none either.
        due("ahead", x.name(false, 1, -1), NONE);
        due("ahead", x.name(true, 0, Integer.MIN_VALUE), NONE);
    }

    private void model() {
        says(7, "Of a MODEL what 0 COST (its own), 1 LIKENESS, 2 TARGET.");
        DutyCase x = told("model a 9999 99 9999;model b 1 0 0;firm x;cost x b 55;");
        int[] most = {9999, 99, 9999};
        int[] least = {1, 0, 0};
        x.costs(0, 0, 44);
        for (int what = 0; what < 3; what++) {
            due("the greatest, what " + what, x.model(0, what), most[what]);
            due("the least, what " + what, x.model(1, what), least[what]);
        }
        more("NoSuchElementException: another what.");
        refusals.bounds(NO_WHAT, "model", 0, 2, (c, what) -> c.model(1, what));
    }

    private void cost() {
        says(8, "COST of a MODEL for a FIRM.");
        DutyCase x = told(sixModels() + "firm w;firm x;firm y;firm z;cost w a 1;cost z f 9999;");
        for (int place = 0; place < 24; place++) {
            due("cost " + place, x.cost(place / 6, place % 6), place == 0 ? 1 : place == 23 ? 9999 : 7);
        }
        x.costs(3, 5, 1);
        due("told anew", x.cost(3, 5), 1);
        due("its neighbour's", x.cost(3, 4) + x.cost(2, 5), 14);
    }

    private void sale() {
        says(9, "Of a SALE what 0 MARKET, 1 FIRM, 2 MODEL, 3 LEVEL, 4 MONTH, 5 MANY, 6 PRICE, 7 OFF, 8 NET, 9 1 if it is"
                + " BELOW, else 0, 10 1 if it is IN, else 0.");
        DutyCase x = told("adjust third 0-9999*9999;adjust home p+1;" + PLAIN);
        x.put(HOME, 0, 0, 0, 0, 1, 1);
        x.put(THIRD, 3, 1, 3, 11, 999, 9999);
        int[] least = {0, 0, 0, 0, 0, 1, 1, 2, 0, 1, 0};
        int[] most = {2, 3, 1, 3, 11, 999, 9999, -1000000, 99999, 0, 1};
        for (int what = 0; what < 11; what++) {
            due("the least, what " + what, x.sale(0, what), least[what]);
            due("the greatest, what " + what, x.sale(1, what), most[what]);
        }
        x.put(EXPORT, 0, 0, 0, 0, 21, 1);
        due("without a base not below", x.sale(0, 9), 0);
        due("without a base not in", x.sale(0, 10), 0);
        due("an export is not below", x.sale(2, 9), 0);
        due("an export is not in", x.sale(2, 10), 0);
        more("NoSuchElementException: another what.");
        refusals.bounds(NO_WHAT, "sale", 0, 10, (c, what) -> c.sale(7, what));
    }

    // ---- acts

    private void put() {
        says(10, "A SALE is put in: its number.");
        DutyCase x = told(PLAIN);
        due("the first", x.put(HOME, 0, 0, 0, 0, 1, 1), 0);
        due("the second", x.put(THIRD, 3, 1, 3, 11, 999, 9999), 1);
        int[] greatest = {THIRD, 3, 1, 3, 11, 999, 9999};
        for (int what = 0; what < greatest.length; what++) {
            due("what " + what, x.sale(1, what), greatest[what]);
        }
        x.drop(1);
        due("behind one dropped", x.put(EXPORT, 0, 0, 0, 0, 1, 1), 2);
        x.undo();
        due("where one was undone", x.put(EXPORT, 1, 0, 0, 0, 1, 1), 2);
        for (int n = 3; n < 40; n++) {
            due("its number", x.put(n % 3, n % 4, n % 2, n % 4, n % 12, n, n), n);
        }
        due("the last one", x.sale(39, 5), 39);

        more("IllegalStateException: there were 40.");
        check.thrown(IllegalStateException.class, () -> x.put(HOME, 0, 0, 0, 0, 1, 1), "the 41st");
        x.drop(0);
        x.drop(39);
        check.thrown(IllegalStateException.class, () -> x.put(HOME, 0, 0, 0, 0, 1, 1), "those dropped are of the 40");
        due("sales", x.count(2), 40);
        due("acts", x.count(10), 16);
        x.undo();
        x.undo();
        due("the 40th is undone", x.undo(), 13);
        due("sales", x.count(2), 39);
        due("the 40th again", x.put(HOME, 0, 0, 0, 0, 1, 7), 39);
        due("its price", x.sale(39, 6), 7);
        check.thrown(IllegalStateException.class, () -> x.put(HOME, 0, 0, 0, 0, 1, 1), "the 41st again");
    }

    private void putOfWrongOnes() {
        says(10, "IndexOutOfBoundsException: FIRM, MODEL");
        Class<IndexOutOfBoundsException> index = IndexOutOfBoundsException.class;
        refusals.bounds(index, "firm", 0, 1, (x, n) -> x.put(EXPORT, n, 0, 0, 0, 1, 1));
        refusals.bounds(index, "model", 0, 1, (x, n) -> x.put(EXPORT, 0, n, 0, 0, 1, 1));

        more("IllegalArgumentException: another number is none");
        refusals.bounds(NUMBER, "market", 0, 2, (x, n) -> x.put(n, 0, 0, 0, 0, 1, 1));
        refusals.bounds(NUMBER, "level", 0, 3, (x, n) -> x.put(EXPORT, 0, 0, n, 0, 1, 1));
        refusals.bounds(NUMBER, "month", 0, 11, (x, n) -> x.put(EXPORT, 0, 0, 0, n, 1, 1));
        refusals.bounds(NUMBER, "many", 1, 999, (x, n) -> x.put(EXPORT, 0, 0, 0, 0, n, 1));
        refusals.bounds(NUMBER, "price", 1, 9999, (x, n) -> x.put(EXPORT, 0, 0, 0, 0, 1, n));
    }

    private void drop() {
        says(11, "A SALE is dropped.");
        DutyCase x = told(PLAIN);
        for (int n = 0; n < 40; n++) {
            x.put(EXPORT, 0, 0, 0, 0, 1, 1);
        }
        x.drop(0);
        x.drop(39);
        due("those that count", x.count(3), 38);
        due("value", x.value(0), 38000);
        Class<IndexOutOfBoundsException> index = IndexOutOfBoundsException.class;
        check.thrown("the first again", index, () -> x.drop(0));
        check.thrown("the last again", index, () -> x.drop(39));
        check.thrown("behind the last", index, () -> x.drop(40));
        due("acts", x.count(10), 16);
        due("undone", x.undo(), 15);
        due("the last is there again", x.sale(39, 6), 1);
        check.thrown(index, () -> x.sale(0, 6), "the first is not");
        DutyCase all = told(PLAIN);
        all.put(EXPORT, 0, 0, 0, 0, 1, 1);
        all.drop(0);
        due("none counts", all.count(3), 0);
        due("one is kept", all.count(2), 1);
        due("no group", all.groups(0), 0);
        due("no heaviest", all.heaviest(0, false), NONE);
    }

    private void price() {
        says(12, "PRICE of a SALE is told: what it was.");
        DutyCase x = told("adjust home p-50;" + PLAIN);
        x.put(HOME, 0, 0, 0, 0, 1, 60);
        due("the least", x.price(0, 1), 60);
        due("off", x.sale(0, 7), -49);
        due("the greatest", x.price(0, 9999), 1);
        due("off", x.sale(0, 7), 9949);
        due("the same", x.price(0, 9999), 9999);
        due("acts", x.count(10), 4);
        more("IllegalArgumentException: it is none.");
        refusals.bounds(NUMBER, "price", 1, 9999, (c, n) -> c.price(7, n));
    }

    private void costs() {
        says(13, "COST of a MODEL for a FIRM is told (1 to 9999): what it was.");
        DutyCase x = told("adjust home c;" + PLAIN);
        x.put(HOME, 0, 0, 0, 0, 1, 9999);
        due("the model's", x.costs(0, 0, 1), 100);
        due("off", x.sale(0, 7), 1);
        due("the least", x.costs(0, 0, 9999), 1);
        due("net", x.sale(0, 8), 0);
        due("the greatest", x.costs(0, 0, 100), 9999);
        due("another firm's", x.costs(3, 0, 5), 100);
        due("another model's", x.costs(0, 1, 5), 100);
        x.undo();
        due("the model's again", x.cost(0, 1), 100);
        due("another model's sale", x.sale(x.put(HOME, 0, 1, 0, 0, 1, 500), 7), 100);
        x.costs(0, 1, 6);
        due("told anew", x.sale(1, 7), 6);
        due("not the first model's", x.sale(0, 7), 100);
        more("IllegalArgumentException: it is none.");
        refusals.bounds(NUMBER, "costs", 1, 9999, (c, n) -> c.costs(1, 1, n));
    }

    private void set() {
        says(14, "METHOD (what 0: 0 to 2), ZEROING (1), LESSER (2), BY MONTHS (3: 0 no, 1 yes), PROFIT (4), STEP (5: 0 to"
                + " 99) is told: what it was.");
        int[] first = {0, 0, 0, 0, 10, 0};
        int[] most = {2, 1, 1, 1, 99, 99};
        DutyCase x = new DutyCase();
        for (int what = 0; what < 6; what++) {
            due("at first " + what, x.set(what, most[what]), first[what]);
            due("the greatest " + what, x.set(what, 0), most[what]);
            due("the least " + what, x.set(what, most[what]), 0);
        }
        for (int what = 0; what < 6; what++) {
            due("as told " + what, x.count(4 + what), most[what]);
        }

        more("NoSuchElementException: another what; IllegalArgumentException: it is none.");
        refusals.bounds(NO_WHAT, "what", 0, 5, (c, what) -> c.set(what, 1));
        refusals.bounds(NUMBER, "method", 0, 2, (c, n) -> c.set(METHOD, n));
        refusals.bounds(NUMBER, "zeroing", 0, 1, (c, n) -> c.set(ZEROING, n));
        refusals.bounds(NUMBER, "lesser", 0, 1, (c, n) -> c.set(LESSER, n));
        refusals.bounds(NUMBER, "by months", 0, 1, (c, n) -> c.set(BY_MONTHS, n));
        refusals.bounds(NUMBER, "profit", 0, 99, (c, n) -> c.set(PROFIT, n));
        refusals.bounds(NUMBER, "step", 0, 99, (c, n) -> c.set(STEP, n));
    }

    private void silent() {
        says(15, "A FIRM was SILENT, or not: whether it was told so.");
        DutyCase x = told("firm w;firm x;firm y;firm z;silent z;");
        due("told by the text", x.silent(3, true), true);
        due("told again", x.silent(3, false), true);
        due("told not", x.silent(3, false), false);
        due("not told", x.silent(0, false), false);
        due("not told", x.silent(0, true), false);
        due("told", x.silent(0, true), true);
        due("its neighbour", x.silent(1, true), false);
        due("silent ones", x.count(12), 2);
        due("acts", x.count(10), 7);
        x.undo();
        x.undo();
        due("undone where nothing changed", x.count(12), 1);
        x.undo();
        due("undone", x.count(12), 0);
    }

    private void undo() {
        says(16, "The latest ACT is UNDONE: how many can be");
        DutyCase x = new DutyCase();
        int step = 0;
        for (int n = 1; n <= 16; n++) {
            step++;
            x.set(STEP, step);
        }
        // Two undone and five told, over and over: the rows that keep acts come round again and again.
        for (int round = 0; round < 12; round++) {
            due("left", x.undo(), 15);
            due("left", x.undo(), 14);
            step -= 2;
            due("step", x.count(9), step);
            for (int n = 0; n < 5; n++) {
                step++;
                x.set(STEP, step);
            }
            due("kept", x.count(10), 16);
        }
        for (int left = 15; left >= 0; left--) {
            due("left", x.undo(), left);
            step--;
            due("step", x.count(9), step);
        }

        more("NONE: there was none.");
        due("the 17th", x.undo(), NONE);
        due("again", x.undo(), NONE);
        due("nothing happened", x.count(9), 36);
        due("ahead of any", new DutyCase().undo(), NONE);
        x.set(STEP, 1);
        due("one", x.undo(), 0);
        due("no more", x.undo(), NONE);
        x.set(STEP, 1);
        x.read();
        due("behind a text", x.undo(), NONE);
        check.thrown(NUMBER, () -> x.set(STEP, 100), "a refused call");
        due("behind a refused call", x.undo(), NONE);
    }

    // ---- worth

    private void base() {
        says(17, "BASE of a FIRM: 0 home, 2 third");
        DutyCase x = told(PLAIN);
        x.put(HOME, 0, 0, 0, 0, 50, 1);
        x.put(THIRD, 0, 0, 0, 0, 51, 1);
        x.put(EXPORT, 0, 0, 0, 0, 999, 1);
        due("1000 by 999", x.base(0), 0);
        x.put(EXPORT, 0, 1, 0, 0, 1, 1);
        due("1000 by 1000", x.base(0), 0);
        x.put(EXPORT, 0, 1, 0, 0, 1, 1);
        due("1000 by 1001, 1020 by 1001", x.base(0), 2);

        more("NONE: none.");
        x.put(EXPORT, 0, 1, 0, 0, 19, 1);
        due("1020 by 1020", x.base(0), 2);
        x.put(EXPORT, 0, 1, 0, 0, 1, 1);
        due("1020 by 1021", x.base(0), NONE);
        due("no sales", x.base(3), NONE);
    }

    private void below() {
        says(18, "Of a FIRM and a MODEL in BASE: what 0 MANY in all, 1 MANY that are BELOW, 2 1 if there are BELOW ones"
                + " that are OUT, else 0 (0, 0, 0 without BASE).");
        DutyCase x = told(PLAIN);
        belowAre(x, 0, 0, 0);
        x.put(HOME, 0, 0, 0, 0, 40, 100);
        belowAre(x, 40, 0, 0);
        x.put(HOME, 0, 0, 0, 0, 9, 99);
        belowAre(x, 49, 9, 0);
        x.put(HOME, 0, 0, 0, 0, 1, 1);
        belowAre(x, 50, 10, 1);
        x.put(THIRD, 0, 0, 0, 0, 100, 99);
        belowAre(x, 50, 10, 1);
        x.put(EXPORT, 0, 1, 0, 0, 999, 1);
        x.put(EXPORT, 0, 1, 0, 0, 2, 1);
        belowAre(x, 100, 100, 1);
        x.put(EXPORT, 0, 1, 0, 0, 999, 1);
        x.put(EXPORT, 0, 1, 0, 0, 1, 1);
        belowAre(x, 0, 0, 0);
        more("NoSuchElementException: another what.");
        refusals.bounds(NO_WHAT, "below", 0, 2, (c, what) -> c.below(1, 1, what));
        check.thrown(NO_WHAT, () -> x.below(0, 0, 3), "without a base too");
    }

    private void belowAre(DutyCase x, int all, int below, int out) {
        due("in all", x.below(0, 0, 0), all);
        due("below", x.below(0, 0, 1), below);
        due("out", x.below(0, 0, 2), out);
    }

    private void worth() {
        says(19, "WORTH at a LEVEL (0 to 3; month NONE: as without BY MONTHS; 0 to 11: as with it, whatever is told).");
        DutyCase x = told("step 1;" + PLAIN);
        for (int month = 0; month < 12; month++) {
            x.put(HOME, 0, 0, 0, month, 1, 100 + month);
        }
        for (int told = 0; told < 2; told++) {
            x.set(BY_MONTHS, told);
            for (int level = 0; level < 4; level++) {
                due("level " + level, x.worth(0, 0, level, NONE), 105500 + 1000 * level);
            }
            for (int month = 0; month < 12; month++) {
                due("month " + month, x.worth(0, 0, 3, month), 103000 + 1000 * month);
            }
        }
        DutyCase full = told(PLAIN);
        for (int n = 0; n < 40; n++) {
            full.put(HOME, 0, 0, 0, n < 39 ? 0 : 11, 1, n < 39 ? 100 : 140);
        }
        due("all of forty", full.worth(0, 0, 0, NONE), 101000);
        due("the last of forty", full.worth(0, 0, 0, 11), 140000);
        due("all others", full.worth(0, 0, 0, 0), 100000);
        more("IllegalArgumentException: LEVEL, MONTH is none.");
        refusals.bounds(NUMBER, "level", 0, 3, (c, n) -> c.worth(1, 1, n, NONE));
        refusals.bounds(NUMBER, "month", NONE, 11, (c, n) -> c.worth(1, 1, 0, n));
    }

    private void found() {
        says(20, "How that WORTH is found: what 0 1, 2 or 3 (as told), 1 the MODEL (3: NONE), 2 the LEVEL (3: NONE).");
        DutyCase x = told(PLAIN);
        for (int level = 0; level < 4; level++) {
            foundIs(x, 1, level, 3, NONE, NONE);
        }
        int first = x.put(HOME, 0, 0, 0, 0, 1, 100);
        x.put(HOME, 0, 0, 3, 0, 1, 100);
        int[] nearest = {0, 0, 3, 3};
        for (int level = 0; level < 4; level++) {
            foundIs(x, 0, level, 1, 0, nearest[level]);
            foundIs(x, 1, level, 2, 0, nearest[level]);
        }
        x.drop(first);
        foundIs(x, 0, 0, 1, 0, 3);
        x.put(HOME, 0, 1, 0, 0, 1, 100);
        foundIs(x, 1, 3, 1, 1, 0);

        more("IllegalArgumentException: LEVEL is none; NoSuchElementException: another what.");
        refusals.bounds(NUMBER, "level", 0, 3, (c, n) -> c.found(1, 1, n, 0));
        refusals.bounds(NO_WHAT, "what", 0, 2, (c, what) -> c.found(1, 1, 3, what));
    }

    private void foundIs(DutyCase x, int model, int level, int way, int by, int at) {
        due("way at " + level, x.found(0, model, level, 0), way);
        due("model at " + level, x.found(0, model, level, 1), by);
        due("level at " + level, x.found(0, model, level, 2), at);
    }

    private void match() {
        says(21, "The SALE with which an EXPORT is compared by METHOD 2");
        DutyCase x = told(PLAIN);
        x.put(EXPORT, 0, 0, 3, 0, 999, 100);
        x.put(HOME, 0, 0, 0, 11, 100, 100);
        due("the farthest of all", x.match(0), 1);
        x.put(HOME, 0, 0, 0, 11, 101, 100);
        due("one nearer by one piece", x.match(0), 2);
        x.put(HOME, 0, 0, 0, 10, 1, 100);
        due("one nearer by a month", x.match(0), 3);
        x.put(HOME, 0, 0, 1, 11, 1, 100);
        due("one nearer by a level", x.match(0), 4);
        x.put(HOME, 0, 0, 1, 11, 1, 100);
        due("one alike behind it", x.match(0), 4);

        more("NONE: there is none.");
        DutyCase y = told(PLAIN);
        y.put(EXPORT, 0, 0, 0, 0, 20, 100);
        due("no other sale", y.match(0), NONE);
        y.put(HOME, 0, 1, 0, 0, 1, 100);
        due("one of another model", y.match(0), NONE);
        int own = y.put(HOME, 0, 0, 0, 0, 1, 99);
        due("one that is out", y.match(0), NONE);
        y.price(own, 100);
        due("one that is in", y.match(0), own);
        y.put(EXPORT, 0, 0, 0, 0, 21, 100);
        due("without a base", y.match(0), NONE);

        more("IllegalArgumentException: it is no EXPORT.");
        for (int sale : new int[] {0, 1, 2}) {
            refusals.refused(NUMBER, "match of " + sale, c -> c.match(sale));
        }
    }

    // ---- margins

    private void difference() {
        says(22, "DIFFERENCE of an EXPORT by METHOD 1 or 2 (BY MONTHS as told).");
        DutyCase x = told(PLAIN);
        x.put(HOME, 0, 0, 0, 0, 3, 100);
        x.put(HOME, 0, 0, 0, 1, 1, 102);
        x.put(EXPORT, 0, 0, 0, 1, 2, 101);
        due("by 1", x.difference(2, 1), (100500 - 101000) * 2);
        due("by 2", x.difference(2, 2), (102000 - 101000) * 2);
        x.set(METHOD, 2);
        due("by 1, whatever is told", x.difference(2, 1), -1000);
        x.set(BY_MONTHS, 1);
        due("by 1 and months", x.difference(2, 1), 2000);
        due("by 2 and months", x.difference(2, 2), 2000);
        x.price(2, 102);
        due("just nothing", x.difference(2, 1), 0);
        DutyCase most = told("adjust home 0-9999*10;adjust export p;firm x;model a 1 0 0;sell home x a 0 0 999 9999;"
                + "sell export x a 0 0 999 9999;");
        due("the greatest", most.difference(1, 1), 99999000L * 999);

        more("IllegalArgumentException: it is no EXPORT, the METHOD is none of both.");
        refusals.bounds(NUMBER, "method", 1, 2, (c, n) -> c.difference(7, n));
        for (int sale : new int[] {0, 1, 2}) {
            refusals.refused(NUMBER, "difference of " + sale, c -> c.difference(sale, 1));
            refusals.refused(NUMBER, "difference of " + sale, c -> c.difference(sale, 2));
        }
    }

    private void groups() {
        says(23, "How many GROUPS a FIRM has by METHOD 0 (BY MONTHS as told).");
        DutyCase x = told(PLAIN);
        due("without exports", x.groups(0), 0);
        x.put(HOME, 0, 0, 0, 0, 1, 1);
        due("with one at home", x.groups(0), 0);
        for (int n = 1; n < 40; n++) {
            x.put(EXPORT, 0, n % 2, n / 2 % 4, n / 8 * 2, 1, 1);
        }
        due("of two models and four levels", x.groups(0), 8);
        x.set(METHOD, 1);
        due("by method 0, whatever is told", x.groups(0), 8);
        x.set(BY_MONTHS, 1);
        due("by months", x.groups(0), 39);
        due("of another", x.groups(1), 0);
    }

    private void group() {
        says(24, "Of its k-th GROUP (as their first EXPORTS come) what 0 MODEL, 1 LEVEL, 2 MONTH (NONE, if not BY MONTHS),"
                + " 3 MANY, 4 AVERAGE, 5 WORTH, 6 DIFFERENCE.");
        DutyCase x = told(PLAIN);
        int dropped = x.put(EXPORT, 0, 0, 0, 0, 1, 1);
        x.put(EXPORT, 0, 1, 3, 11, 2, 50);
        x.put(EXPORT, 0, 0, 0, 0, 1, 120);
        x.put(EXPORT, 0, 1, 3, 0, 1, 51);
        x.drop(dropped);
        groupIs(x, 0, 1, 3, NONE, 3, 50333, 100000, 149001);
        groupIs(x, 1, 0, 0, NONE, 1, 120000, 100000, -20000);
        check.thrown(NO_WHAT, () -> x.group(0, 2, 0), "a third one");
        x.set(BY_MONTHS, 1);
        groupIs(x, 0, 1, 3, 11, 2, 50000, 100000, 100000);
        groupIs(x, 1, 0, 0, 0, 1, 120000, 100000, -20000);
        groupIs(x, 2, 1, 3, 0, 1, 51000, 100000, 49000);
        x.undo();
        x.undo();
        groupIs(x, 0, 0, 0, NONE, 2, 60500, 100000, 79000);

        more("NoSuchElementException: there is no such GROUP, another what.");
        refusals.bounds(NO_WHAT, "k", 0, 2, (c, k) -> c.group(0, k, 6));
        refusals.bounds(NO_WHAT, "k of the other", 0, 0, (c, k) -> c.group(1, k, 0));
        refusals.bounds(NO_WHAT, "what", 0, 6, (c, what) -> c.group(1, 0, what));
        check.thrown(NO_WHAT, () -> told(PLAIN).group(0, 0, 0), "without exports");
    }

    private void groupIs(DutyCase x, int k, long... want) {
        for (int what = 0; what < want.length; what++) {
            due("group " + k + " what " + what, x.group(0, k, what), want[what]);
        }
    }

    private void sum() {
        says(25, "SUM by a METHOD, with ZEROING or not.");
        DutyCase x = unlike();
        long[][] sums = {{10000, 10000}, {10000, 60000}, {30000, 60000}};
        for (int method = 0; method < 3; method++) {
            due("without zeroing by " + method, x.sum(0, method, false), sums[method][0]);
            due("with zeroing by " + method, x.sum(0, method, true), sums[method][1]);
        }
        due("without exports", x.sum(1, 2, false), 0);
        x.silent(0, true);
        due("of a silent one its own", x.sum(0, 1, true), 60000);
        more("IllegalArgumentException: the METHOD is none.");
        refusals.bounds(NUMBER, "sum", 0, 2, (c, n) -> c.sum(1, n, false));
    }

    /** Differences of 0 and 10 by averages; 50, -50, 10 by each; 30, -30, 30 by pairs; a value of 290. */
    private static DutyCase unlike() {
        return told("model a 70 0 0;firm x;firm y;sell home x a 0 0 1 80;sell home x a 0 1 1 120;"
                + "sell export x a 0 0 1 50;sell export x a 0 1 1 150;sell export x a 1 1 1 90;");
    }

    private void value() {
        says(26, "VALUE of a FIRM.");
        DutyCase x = unlike();
        due("value", x.value(0), 290000);
        due("without exports", x.value(1), 0);
        x.silent(0, true);
        due("of a silent one", x.value(0), 290000);
        DutyCase free = told("adjust export p;" + PLAIN);
        free.put(EXPORT, 0, 0, 0, 0, 999, 9999);
        due("of nets of 0", free.value(0), 0);
        DutyCase most = told("adjust export 0-9999*10;" + PLAIN);
        for (int n = 0; n < 40; n++) {
            most.put(EXPORT, 3, 0, 0, 0, 999, 9999);
        }
        due("the greatest", most.value(3), 99999L * 999 * 40 * 1000);
    }

    private void margin() {
        says(27, "MARGIN by a METHOD, with ZEROING or not (of a SILENT one the greatest of the others by these).");
        DutyCase x = unlike();
        int[][] margins = {{344, 344}, {344, 2068}, {1034, 2068}};
        x.silent(1, true);
        for (int method = 0; method < 3; method++) {
            for (int firm = 0; firm < 2; firm++) {
                due("without zeroing by " + method, x.margin(firm, method, false), margins[method][0]);
                due("with zeroing by " + method, x.margin(firm, method, true), margins[method][1]);
            }
        }
        x.silent(0, true);
        due("all silent", x.margin(0, 1, true), 0);
        DutyCase free = told("adjust export p;" + PLAIN);
        free.put(EXPORT, 0, 0, 0, 0, 1, 1);
        for (int method = 0; method < 3; method++) {
            due("the greatest by " + method, free.margin(0, method, false), 99999);
            due("the least by " + method, free.margin(1, method, false), 0);
        }
        more("IllegalArgumentException: the METHOD is none.");
        refusals.bounds(NUMBER, "margin", 0, 2, (c, n) -> c.margin(1, n, true));
    }

    // ---- duties

    private static DutyCase exporting(int... many) {
        DutyCase x = told(PLAIN);
        for (int firm = 0; firm < many.length; firm++) {
            x.put(EXPORT, firm, 0, 0, 0, many[firm], 50);
        }
        return x;
    }

    private void negligible() {
        says(28, "Whether a FIRM is NEGLIGIBLE.");
        due("3 of 100", exporting(97, 3).negligible(1), false);
        due("29 of 1000", exporting(971, 29).negligible(1), true);
        due("without exports", exporting(971, 29).negligible(2), false);
        due("70 of 1000 together", exporting(930, 29, 29, 12).negligible(3), true);
        due("71 of 1000 together", exporting(929, 29, 29, 13).negligible(3), false);
        due("the greatest one", exporting(971, 29).negligible(0), false);
        DutyCase x = exporting(971, 29);
        x.silent(1, true);
        due("a silent one", x.negligible(1), true);
        due("no exports at all", told(PLAIN).negligible(0), false);
    }

    private void duty() {
        says(29, "Of a FIRM what 0 MARGIN, 1 RATE, 2 INJURY, 3 DUTY.");
        DutyCase x = told("profit 0;model a 102 0 101;firm x;firm y;sell export x a 0 0 1 100;");
        dutyIs(x, 0, 200, 200, 100, 200);
        x.set(LESSER, 1);
        dutyIs(x, 0, 200, 200, 100, 100);
        dutyIs(x, 1, 0, 0, 0, 0);
        x.costs(0, 0, 101);
        dutyIs(x, 0, 100, 0, 100, 0);
        x.silent(0, true);
        dutyIs(x, 0, 0, 0, 100, 0);
        x.silent(0, false);
        x.costs(0, 0, 9999);
        x.price(0, 1);
        dutyIs(x, 0, 99999, 99999, 99999, 99999);
        x.silent(1, true);
        dutyIs(x, 1, 99999, 0, 0, 0);
        more("NoSuchElementException: another what.");
        refusals.bounds(NO_WHAT, "duty", 0, 3, (c, what) -> c.duty(1, what));
    }

    private void dutyIs(DutyCase x, int firm, int... want) {
        for (int what = 0; what < 4; what++) {
            due("duty of " + firm + " what " + what, x.duty(firm, what), want[what]);
        }
    }

    private void others() {
        says(30, "OTHERS.");
        due("of a new object", new DutyCase().others(), 0);
        DutyCase x = exporting(1, 1, 1, 1);
        due("four alike", x.others(), 10000);
        x.price(3, 100);
        due("one without a rate", x.others(), 10000);
        x.price(3, 90);
        // 10000 thrice by 50 and 1111 by 90, by 240.
        due("rounded down", x.others(), 6666);
        x.price(3, 91);
        due("rounded down", x.others(), (30000 * 50 + 989 * 91) / 241);
        for (int firm = 0; firm < 4; firm++) {
            x.silent(firm, true);
        }
        due("all silent", x.others(), 0);
        DutyCase most = told("adjust export 0-9999*9;adjust home 0-9999*10;step 99;model a 9999 0 0;model b 8000 0 0;"
                + "firm x;sell home x b 0 0 999 9999;");
        for (int n = 1; n < 20; n++) {
            most.put(EXPORT, 0, 0, 3, 0, 999, 1);
        }
        // A net of 89992 against 102295.
        due("great values", most.others(), 12303 * 10000 / 89992);
    }

    private void method() {
        says(31, "The METHOD (what 0) by which MARGIN of a FIRM, ZEROING as told, is greatest (of several the first), or"
                + " by which it is least (1).");
        DutyCase x = unlike();
        due("344, 344, 1034: greatest", x.method(0, 0), 2);
        due("344, 344, 1034: least", x.method(0, 1), 0);
        x.set(ZEROING, 1);
        due("344, 2068, 2068: greatest", x.method(0, 0), 1);
        due("344, 2068, 2068: least", x.method(0, 1), 0);
        due("all 0: greatest", x.method(1, 0), 0);
        due("all 0: least", x.method(1, 1), 0);
        for (int method = 0; method < 3; method++) {
            x.set(METHOD, method);
            due("whatever method is told", x.method(0, 0), 1);
        }
        x.price(0, 130);
        x.price(2, 100);
        x.price(3, 300);
        x.price(4, 300);
        // Of 700: nothing by averages, 25 by the average of 125 with each, 30 by pairs.
        due("0, 357, 428: greatest", x.method(0, 0), 2);
        due("0, 357, 428: least", x.method(0, 1), 0);
        x.set(ZEROING, 0);
        due("none at all", x.method(0, 0), 0);
        DutyCase y = told(PLAIN);
        y.put(HOME, 0, 0, 0, 0, 1, 150);
        y.put(HOME, 0, 0, 0, 1, 1, 110);
        y.put(EXPORT, 0, 0, 0, 1, 1, 100);
        due("3000, 3000, 1000: greatest", y.method(0, 0), 0);
        due("3000, 3000, 1000: least", y.method(0, 1), 2);
        more("NoSuchElementException: another what.");
        refusals.bounds(NO_WHAT, "method", 0, 1, (c, what) -> c.method(1, what));
    }

    private void undertaking() {
        says(32, "UNDERTAKING; NONE: none.");
        DutyCase x = told("profit 0;model a 102 0 0;firm x;firm y;adjust export p-l*50-100+m;"
                + "sell export x a 0 0 1 1;sell export y a 0 0 1 1;");
        due("one", x.undertaking(0), 1);
        x.costs(0, 0, 101);
        due("0", x.undertaking(0), 0);
        x.costs(0, 0, 9999);
        due("many", x.undertaking(0), 9703);
        DutyCase free = told("profit 2;model a 9999 0 0;firm x;adjust export p;sell export x a 0 0 999 1;");
        due("the greatest", free.undertaking(0), 9999);
        free.set(PROFIT, 3);
        due("none", free.undertaking(0), NONE);
        for (int cost = 9894; cost < 9904; cost++) {
            free.costs(0, 0, cost);
            int worth = cost + cost * 3 / 100;
            int least = worth * 100 / 102 + 1;
            due("with a worth of " + worth, free.undertaking(0), least > 9999 ? NONE : least);
        }

        more("IllegalStateException: it has no EXPORTS.");
        check.thrown(IllegalStateException.class, () -> told(PLAIN).undertaking(0), "no sales");
        DutyCase y = told(PLAIN);
        y.put(HOME, 0, 0, 0, 0, 1, 1);
        y.put(THIRD, 0, 0, 0, 0, 1, 1);
        y.put(EXPORT, 1, 0, 0, 0, 1, 1);
        check.thrown(IllegalStateException.class, () -> y.undertaking(0), "sales of other markets and firms");
        int export = y.put(EXPORT, 0, 0, 0, 0, 1, 1);
        due("one export", y.undertaking(0), 98);
        y.drop(export);
        check.thrown(IllegalStateException.class, () -> y.undertaking(0), "its export dropped");
    }

    private void picked() {
        says(33, "PICKED (bits of MONTHS).");
        due("none", told(PLAIN).picked(0), 0);
        for (int month = 0; month < 12; month++) {
            DutyCase x = told(PLAIN);
            x.put(EXPORT, 0, 0, 0, month, 1, 97);
            due("month " + month + " alone", x.picked(0), 0);
            x.put(EXPORT, 0, 0, 0, (month + 1) % 12, 1, 100);
            due("month " + month, x.picked(0), 1 << month);
            x.price(0, 98);
            due("month " + month + " at the bound", x.picked(0), 0);
        }
        DutyCase two = told(PLAIN);
        two.put(EXPORT, 0, 0, 0, 0, 1, 50);
        two.put(EXPORT, 0, 0, 0, 11, 1, 50);
        two.put(EXPORT, 0, 0, 0, 5, 1, 100);
        due("the first and the last", two.picked(0), 1 | 1 << 11);
        DutyCase full = told(PLAIN);
        for (int n = 0; n < 40; n++) {
            full.put(EXPORT, 0, 0, 0, n < 39 ? 0 : 11, 1, n < 39 ? 100 : 97);
        }
        due("the last of forty", full.picked(0), 1 << 11);
    }

    private void collected() {
        says(34, "DEPOSIT of an EXPORT (owed false), or what is OWED.");
        DutyCase x = told(PLAIN);
        x.put(EXPORT, 0, 0, 0, 0, 3, 97);
        due("deposit, rounded down", x.collected(0, false), 309 * 97 * 3 / 10);
        due("owed", x.collected(0, true), 9000);
        x.price(0, 98);
        due("deposit at a rate of 204", x.collected(0, false), 204 * 98 * 3 / 10);
        x.price(0, 99);
        due("no deposit below 200", x.collected(0, false), 0);
        due("owed all the same", x.collected(0, true), 3000);
        x.price(0, 100);
        due("nothing owed", x.collected(0, true), 0);
        x.price(0, 9999);
        due("not less than nothing", x.collected(0, true), 0);
        more("IllegalArgumentException: it is no EXPORT.");
        for (int sale : new int[] {0, 1, 2}) {
            refusals.refused(NUMBER, "deposit of " + sale, c -> c.collected(sale, false));
            refusals.refused(NUMBER, "owed of " + sale, c -> c.collected(sale, true));
        }
    }

    private void back() {
        says(35, "BACK.");
        DutyCase x = told(PLAIN);
        due("without exports", x.back(0), 0);
        x.put(EXPORT, 0, 0, 0, 0, 3, 97);
        due("less than nothing", x.back(0), 309 * 97 * 3 / 10 - 9000);
        x.put(EXPORT, 1, 0, 0, 0, 3, 50);
        x.silent(0, true);
        due("more than nothing", x.back(0), 10000 * 97 * 3 / 10 - 9000);
        x.put(EXPORT, 0, 0, 0, 0, 1, 97);
        due("each rounded down for itself", x.back(0), 291000 + 97000 - 12000);
        DutyCase y = told(PLAIN);
        y.put(EXPORT, 0, 0, 0, 0, 1, 97);
        y.put(EXPORT, 0, 0, 0, 0, 1, 97);
        due("twice 2997.3, each rounded down", y.back(0), 2997 * 2 - 6000);
        y.put(EXPORT, 0, 0, 1, 0, 1, 200);
        due("no rate, nothing less owed for the dear one", y.back(0), -6000);
        DutyCase full = told(PLAIN);
        for (int n = 0; n < 40; n++) {
            full.put(EXPORT, 0, 0, n % 4, n % 12, 1, 97);
        }
        due("forty, each rounded down", full.back(0), 40 * 2997 - 40 * 3000);
        full.undo();
        due("one undone", full.back(0), 39 * 2997 - 39 * 3000);
    }

    private void weight() {
        says(36, "WEIGHT of a SALE.");
        DutyCase x = told(PLAIN);
        x.put(EXPORT, 0, 0, 0, 0, 1, 50);
        due("the only one", x.weight(0), -10000);
        x.put(HOME, 0, 0, 0, 0, 1, 100);
        due("one without which it is as it is", x.weight(1), 0);
        x.put(EXPORT, 0, 0, 0, 0, 1, 200);
        due("one that hides all", x.weight(2), 10000);
        DutyCase y = told("adjust export p*l;" + PLAIN);
        y.put(EXPORT, 0, 0, 1, 0, 1, 1);
        due("of a value of 0", y.weight(0), -99999);
        y.put(EXPORT, 0, 0, 0, 0, 1, 9999);
        due("the greatest", y.weight(1), 99999);
        due("sales", y.count(3), 2);
        due("acts", y.count(10), 2);
    }

    private void heaviest() {
        says(37, "The SALE of a FIRM, of any MARKET, with the greatest WEIGHT (least false), with the least (true); of"
                + " several the first; NONE: it has none.");
        DutyCase x = told(PLAIN);
        due("none", x.heaviest(0, false), NONE);
        due("none", x.heaviest(0, true), NONE);
        x.put(THIRD, 1, 0, 0, 0, 1, 300);
        due("another's is none", x.heaviest(0, false), NONE);
        x.put(THIRD, 0, 0, 0, 0, 1, 300);
        due("the only one", x.heaviest(0, false), 1);
        due("the only one", x.heaviest(0, true), 1);
        x.put(EXPORT, 0, 0, 0, 0, 1, 150);
        // Without the one of a third land 0, without the export 0, of 10000.
        due("two alike", x.heaviest(0, false), 1);
        due("two alike", x.heaviest(0, true), 1);
        x.put(EXPORT, 0, 0, 0, 0, 1, 150);
        due("two alike behind one", x.heaviest(0, false), 2);
        due("one of a third land", x.heaviest(0, true), 1);
        x.put(HOME, 0, 0, 0, 0, 1, 150);
        due("one at home, without which third is base", x.heaviest(0, false), 4);
        due("all others alike", x.heaviest(0, true), 1);
        x.drop(1);
        due("the first that is left", x.heaviest(0, true), 2);
        DutyCase all = told(PLAIN);
        all.put(EXPORT, 0, 0, 0, 0, 1, 150);
        for (int n = 1; n < 40; n++) {
            all.put(EXPORT, 0, 0, 0, 0, 1, n < 39 ? 90 : 80);
        }
        due("the first of all", all.heaviest(0, false), 0);
        due("the last of all", all.heaviest(0, true), 39);
    }

    // ---- reports

    private void ranked() {
        says(38, "The k-th FIRM by DUTY, the greatest first (of several the first); NONE behind.");
        DutyCase x = exporting(1, 1, 1, 1);
        rankedAre(x, 0, 1, 2, 3);
        x.price(0, 60);
        rankedAre(x, 1, 2, 3, 0);
        x.price(3, 40);
        rankedAre(x, 3, 1, 2, 0);
        x.price(2, 100);
        rankedAre(x, 3, 1, 0, 2);
        x.drop(3);
        rankedAre(x, 1, 0, 2, 3);
        due("of none", new DutyCase().ranked(0), NONE);
        due("behind one", told("firm x;").ranked(1), NONE);
        due("the only one", told("firm x;").ranked(0), 0);
    }

    private void rankedAre(DutyCase x, int... want) {
        for (int k = 0; k < want.length; k++) {
            due("ranked " + k, x.ranked(k), want[k]);
        }
        due("behind", x.ranked(want.length), NONE);
        due("far behind", x.ranked(Integer.MAX_VALUE), NONE);
        // The document tells nothing of one ahead of the first: there is none either.
        due("ahead", x.ranked(-1), NONE);
    }

    private void write() {
        says(39, "A FIRM is WRITTEN: how many bytes.");
        DutyCase x = told("profit 0;model a 100 0 0;firm z;firm abcdef;");
        due("the shortest", x.write(0), "z 0.00%".length());
        due("of six letters", x.write(1), "abcdef 0.00%".length());
        x.put(EXPORT, 0, 0, 0, 0, 98, 1);
        due("the greatest duty", x.write(0), "z 999.99%".length());
        x.silent(1, true);
        due("silent", x.write(1), "abcdef 0.00% silent".length());
        x.put(EXPORT, 1, 0, 0, 0, 2, 1);
        due("the longest", x.write(1), "abcdef 0.00% silent negligible".length());
        due("bytes", x.count(11), 30);
        due("the shortest again", x.write(0), 9);
        check.thrown(IndexOutOfBoundsException.class, () -> x.write(2), "no firm");
        due("what was written stays", x.count(11), 9);
    }

    private void octet() {
        says(40, "Byte k of what was WRITTEN latest; NONE without.");
        DutyCase x = told("firm abcdef;firm z;silent abcdef;");
        due("without", x.octet(0), NONE);
        due("without", x.octet(-1), NONE);
        written(x, 0, "abcdef 0.00% silent");
        written(x, 1, "z 0.00%");
        written(x, 0, "abcdef 0.00% silent");
        written(x, 1, "z 0.00%");
        x.silent(0, false);
        x.undo();
        due("what was written stays over acts", x.octet(0), 'z');
        x.read();
        due("and over a text", x.octet(6), '%');
    }

    private void written(DutyCase x, int firm, String want) {
        x.write(firm);
        for (int k = 0; k < want.length(); k++) {
            due("byte " + k + " of " + want, x.octet(k), want.charAt(k));
        }
        for (int k : new int[] {want.length(), want.length() + 1, 63, 64, Integer.MAX_VALUE, -1, Integer.MIN_VALUE}) {
            due("byte " + k + " of " + want, x.octet(k), NONE);
        }
    }

    private void count() {
        says(41, "0 MODELS, 1 FIRMS, 2 SALES (with those dropped), 3 SALES that count, 4 METHOD, 5 ZEROING, 6 LESSER, 7 BY"
                + " MONTHS (1, 0), 8 PROFIT, 9 STEP, 10 ACTS that can be undone, 11 bytes WRITTEN, 12 FIRMS that were"
                + " SILENT.");
        countsAre(new DutyCase(), 0, 0, 0, 0, 0, 0, 0, 0, 10, 0, 0, 0, 0);
        DutyCase x = told(sixModels() + "firm w;firm x;firm y;firm abcdef;silent w;silent x;silent y;silent abcdef;"
                + "profit 99;step 99;");
        for (int n = 0; n < 40; n++) {
            x.put(n % 3, 0, 0, 0, 0, 1, 1);
        }
        x.drop(0);
        x.drop(39);
        x.set(METHOD, 2);
        x.set(ZEROING, 1);
        x.set(LESSER, 1);
        x.set(BY_MONTHS, 1);
        x.write(3);
        countsAre(x, 6, 4, 40, 38, 2, 1, 1, 1, 99, 99, 16, 19, 4);
        for (int n = 0; n < 6; n++) {
            x.undo();
        }
        countsAre(x, 6, 4, 40, 40, 0, 0, 0, 0, 99, 99, 10, 19, 4);
        more("NONE for another what.");
        for (int what : new int[] {13, 14, -1, Integer.MAX_VALUE, Integer.MIN_VALUE}) {
            due("count " + what, x.count(what), NONE);
        }
    }

    private void countsAre(DutyCase x, int... want) {
        for (int what = 0; what < 13; what++) {
            due("count " + what, x.count(what), want[what]);
        }
    }
}
