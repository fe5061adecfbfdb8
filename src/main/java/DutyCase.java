import java.util.NoSuchElementException;

/**
 * A case of goods sold abroad below their worth. Words in capitals are those of the document.
 * All rows are made once, in constructors, and used again: a call makes no objects but exceptions.
 */
public final class DutyCase {
    public static final int NONE = -1;

    private static final int MODELS = 6;
    private static final int FIRMS = 4;
    private static final int SALES = 40;
    private static final int MARKETS = 3;
    private static final int LEVELS = 4;
    private static final int MONTHS = 12;
    private static final int METHODS = 3;
    private static final int LETTERS = 6;
    private static final int BYTES = 400;
    private static final int FED = 20;

    private static final int HOME = 0;
    private static final int EXPORT = 1;
    private static final int THIRD = 2;

    private static final int METHOD = 0;
    private static final int ZEROING = 1;
    private static final int LESSER = 2;
    private static final int BY_MONTHS = 3;
    private static final int PROFIT = 4;
    private static final int STEP = 5;
    private static final int SETTINGS = 6;
    private static final int FIRST_PROFIT = 10;

    private static final int MOST_MANY = 999;
    private static final int MOST_MONEY = 9999;
    private static final int MOST_PART = 99;
    private static final int MOST_NET = 99999;
    private static final int MOST_MARGIN = 99999;
    private static final int LEAST_MARGIN = 200;
    private static final int MOST_RAISE = 9999;
    private static final long THOUSAND = 1000L;

    private static final int PUT = 0;
    private static final int DROPPED = 1;
    private static final int PRICED = 2;
    private static final int COSTED = 3;
    private static final int SETTLED = 4;
    private static final int SILENCED = 5;

    private final Reader reader;
    private final Acts acts;
    private final Study study;
    private final Comparison comparison;
    private final Duties duties;
    private final Report report;
    private Book book;
    // A wrong text must change nothing, so a text is read into the spare book and the two change places.
    private Book spare;

    public DutyCase() {
        book = new Book();
        spare = new Book();
        reader = new Reader(spare);
        acts = new Acts();
        study = new Study(book);
        comparison = new Comparison(study);
        duties = new Duties(comparison);
        report = new Report();
    }

    // ---- the text

    public int feed(int a, int b, int c, int d, int e) {
        if (reader.length + FED > BYTES) {
            return NONE;
        }
        reader.append(a);
        reader.append(b);
        reader.append(c);
        reader.append(d);
        reader.append(e);
        return reader.length;
    }

    public boolean end(int n) {
        if (n < 0 || n > reader.length) {
            return false;
        }
        reader.length = n;
        return true;
    }

    public int read() throws IllegalArgumentException {
        reader.parse(spare);
        reader.length = 0;
        if (reader.fault != NONE) {
            throw new IllegalArgumentException("the text is wrong");
        }
        Book old = book;
        book = spare;
        spare = old;
        acts.count = 0;
        return book.sales.count;
    }

    public int fault() {
        return reader.fault;
    }

    public int name(boolean firm, int i, int k) throws IndexOutOfBoundsException {
        if (firm) {
            needFirm(i);
            return book.firms.letterAt(i, k);
        }
        needModel(i);
        return book.models.letterAt(i, k);
    }

    public int model(int model, int what) throws IndexOutOfBoundsException, NoSuchElementException {
        needModel(model);
        switch (what) {
            case 0:
                return book.ownCost[model];
            case 1:
                return book.likeness[model];
            case 2:
                return book.target[model];
            default:
                throw new NoSuchElementException("a model has no such number");
        }
    }

    public int cost(int firm, int model) throws IndexOutOfBoundsException {
        needFirm(firm);
        needModel(model);
        return book.costOf(firm, model);
    }

    public int sale(int sale, int what) throws IndexOutOfBoundsException, NoSuchElementException {
        needSale(sale);
        Sales sales = book.sales;
        switch (what) {
            case 0:
                return sales.market[sale];
            case 1:
                return sales.firm[sale];
            case 2:
                return sales.model[sale];
            case 3:
                return sales.level[sale];
            case 4:
                return sales.month[sale];
            case 5:
                return sales.many[sale];
            case 6:
                return sales.price[sale];
            case 7:
                return sales.off[sale];
            case 8:
                return sales.net[sale];
            case 9:
                study.look(book, sales.firm[sale]);
                return study.below[sale] ? 1 : 0;
            case 10:
                study.look(book, sales.firm[sale]);
                return study.in[sale] ? 1 : 0;
            default:
                throw new NoSuchElementException("a sale has no such number");
        }
    }

    // ---- acts

    public int put(int market, int firm, int model, int level, int month, int many, int price)
            throws IndexOutOfBoundsException, IllegalArgumentException, IllegalStateException {
        needFirm(firm);
        needModel(model);
        needWithin(market, 0, MARKETS - 1);
        needWithin(level, 0, LEVELS - 1);
        needWithin(month, 0, MONTHS - 1);
        needWithin(many, 1, MOST_MANY);
        needWithin(price, 1, MOST_MONEY);
        if (book.sales.count >= SALES) {
            throw new IllegalStateException("there were 40 sales");
        }
        int sale = book.sales.count;
        book.sales.add(market, firm, model, level, month, many, price);
        book.workOut(sale);
        acts.keep(PUT, sale, 0);
        return sale;
    }

    public void drop(int sale) throws IndexOutOfBoundsException {
        needSale(sale);
        book.sales.live[sale] = false;
        acts.keep(DROPPED, sale, 0);
    }

    public int price(int sale, int price) throws IndexOutOfBoundsException, IllegalArgumentException {
        needSale(sale);
        needWithin(price, 1, MOST_MONEY);
        int old = book.sales.price[sale];
        book.tellPrice(sale, price);
        acts.keep(PRICED, sale, old);
        return old;
    }

    public int costs(int firm, int model, int cost) throws IndexOutOfBoundsException, IllegalArgumentException {
        needFirm(firm);
        needModel(model);
        needWithin(cost, 1, MOST_MONEY);
        int old = book.costOf(firm, model);
        int place = firm * MODELS + model;
        acts.keep(COSTED, place, book.toldCost[place]);
        book.tellCost(place, cost);
        return old;
    }

    public int set(int what, int v) throws NoSuchElementException, IllegalArgumentException {
        if (what < 0 || what >= SETTINGS) {
            throw new NoSuchElementException("there is no such setting");
        }
        needWithin(v, 0, mostOfSetting(what));
        int old = book.settings[what];
        book.settings[what] = v;
        acts.keep(SETTLED, what, old);
        return old;
    }

    public boolean silent(int firm, boolean is) throws IndexOutOfBoundsException {
        needFirm(firm);
        boolean old = book.silent[firm];
        book.silent[firm] = is;
        acts.keep(SILENCED, firm, old ? 1 : 0);
        return old;
    }

    public int undo() {
        if (acts.count == 0) {
            return NONE;
        }
        acts.takeBack(book);
        return acts.count;
    }

    // ---- worth

    public int base(int firm) throws IndexOutOfBoundsException {
        needFirm(firm);
        study.look(book, firm);
        return study.base;
    }

    public int below(int firm, int model, int what) throws IndexOutOfBoundsException, NoSuchElementException {
        needFirm(firm);
        needModel(model);
        study.look(book, firm);
        switch (what) {
            case 0:
                return study.allMany[model];
            case 1:
                return study.belowMany[model];
            case 2:
                return study.leavesOut(model) ? 1 : 0;
            default:
                throw new NoSuchElementException("there is no such number of what is below cost");
        }
    }

    public long worth(int firm, int model, int level, int month)
            throws IndexOutOfBoundsException, IllegalArgumentException {
        needFirm(firm);
        needModel(model);
        needWithin(level, 0, LEVELS - 1);
        needWithin(month, NONE, MONTHS - 1);
        study.look(book, firm);
        return study.worthAt(model, level, month);
    }

    public int found(int firm, int model, int level, int what)
            throws IndexOutOfBoundsException, IllegalArgumentException, NoSuchElementException {
        needFirm(firm);
        needModel(model);
        needWithin(level, 0, LEVELS - 1);
        study.look(book, firm);
        int like = study.modelFor(model);
        switch (what) {
            case 0:
                return like == model ? 1 : like == NONE ? 3 : 2;
            case 1:
                return like;
            case 2:
                return study.levelFor(like, level);
            default:
                throw new NoSuchElementException("there is no such number of how a worth is found");
        }
    }

    public int match(int sale) throws IndexOutOfBoundsException, IllegalArgumentException {
        needExport(sale);
        study.look(book, book.sales.firm[sale]);
        return study.matchFor(sale);
    }

    // ---- margins

    public long difference(int sale, int method) throws IndexOutOfBoundsException, IllegalArgumentException {
        needExport(sale);
        needWithin(method, 1, METHODS - 1);
        return comparison.differenceFor(book, sale, method);
    }

    public int groups(int firm) throws IndexOutOfBoundsException {
        needFirm(firm);
        comparison.gather(book, firm, 0);
        return comparison.units;
    }

    public long group(int firm, int k, int what) throws IndexOutOfBoundsException, NoSuchElementException {
        needFirm(firm);
        comparison.gather(book, firm, 0);
        if (k < 0 || k >= comparison.units) {
            throw new NoSuchElementException("there is no such group");
        }
        int first = comparison.firstSale[k];
        switch (what) {
            case 0:
                return book.sales.model[first];
            case 1:
                return book.sales.level[first];
            case 2:
                return book.monthToCompare(first);
            case 3:
                return comparison.many[k];
            case 4:
                return comparison.average[k];
            case 5:
                return comparison.worth[k];
            case 6:
                return comparison.differenceAt(k, 0);
            default:
                throw new NoSuchElementException("a group has no such number");
        }
    }

    public long sum(int firm, int method, boolean zeroing) throws IndexOutOfBoundsException, IllegalArgumentException {
        needFirm(firm);
        needWithin(method, 0, METHODS - 1);
        comparison.gather(book, firm, method);
        return comparison.sumAt(zeroing, 0);
    }

    public long value(int firm) throws IndexOutOfBoundsException {
        needFirm(firm);
        return book.sales.exportValue(firm);
    }

    public int margin(int firm, int method, boolean zeroing)
            throws IndexOutOfBoundsException, IllegalArgumentException {
        needFirm(firm);
        needWithin(method, 0, METHODS - 1);
        return duties.marginTold(book, firm, method, zeroing);
    }

    // ---- duties, by METHOD and ZEROING as told

    public boolean negligible(int firm) throws IndexOutOfBoundsException {
        needFirm(firm);
        duties.markNegligible(book);
        return duties.negligible[firm];
    }

    public int duty(int firm, int what) throws IndexOutOfBoundsException, NoSuchElementException {
        needFirm(firm);
        duties.assess(book);
        switch (what) {
            case 0:
                return duties.margin[firm];
            case 1:
                return duties.rate[firm];
            case 2:
                return duties.injury[firm];
            case 3:
                return duties.duty[firm];
            default:
                throw new NoSuchElementException("there is no such number of a duty");
        }
    }

    public int others() {
        duties.assess(book);
        return duties.rateOfOthers(book);
    }

    public int method(int firm, int what) throws IndexOutOfBoundsException, NoSuchElementException {
        needFirm(firm);
        if (what != 0 && what != 1) {
            throw new NoSuchElementException("a method is the greatest one or the least one");
        }
        int best = 0;
        int bestMargin = duties.marginTold(book, firm, 0, book.isZeroing());
        for (int method = 1; method < METHODS; method++) {
            int margin = duties.marginTold(book, firm, method, book.isZeroing());
            if (what == 0 ? margin > bestMargin : margin < bestMargin) {
                best = method;
                bestMargin = margin;
            }
        }
        return best;
    }

    public int undertaking(int firm) throws IndexOutOfBoundsException, IllegalStateException {
        needFirm(firm);
        if (book.sales.exportMany(firm) == 0) {
            throw new IllegalStateException("the firm has no exports");
        }
        comparison.gather(book, firm, book.settings[METHOD]);
        return comparison.leastRaise(book.isZeroing());
    }

    public int picked(int firm) throws IndexOutOfBoundsException {
        needFirm(firm);
        return duties.pickedMonths(book.sales, firm);
    }

    public long collected(int sale, boolean owed) throws IndexOutOfBoundsException, IllegalArgumentException {
        needExport(sale);
        if (owed) {
            return Math.max(0L, comparison.differenceFor(book, sale, book.methodOwed()));
        }
        duties.assess(book);
        return duties.depositOf(book.sales, sale);
    }

    public long back(int firm) throws IndexOutOfBoundsException {
        needFirm(firm);
        duties.assess(book);
        long deposits = duties.depositsOf(book.sales, firm);
        comparison.gather(book, firm, book.methodOwed());
        return deposits - comparison.sumAt(true, 0);
    }

    public int weight(int sale) throws IndexOutOfBoundsException {
        needSale(sale);
        int firm = book.sales.firm[sale];
        return comparison.marginWithout(book, sale) - comparison.marginNow(book, firm);
    }

    public int heaviest(int firm, boolean least) throws IndexOutOfBoundsException {
        needFirm(firm);
        Sales sales = book.sales;
        int best = NONE;
        int bestMargin = 0;
        for (int i = 0; i < sales.count; i++) {
            if (sales.live[i] && sales.firm[i] == firm) {
                // All weights are taken from the same margin, so the margins without rank them alike.
                int margin = comparison.marginWithout(book, i);
                if (best == NONE || (least ? margin < bestMargin : margin > bestMargin)) {
                    best = i;
                    bestMargin = margin;
                }
            }
        }
        return best;
    }

    public int ranked(int k) {
        if (k < 0 || k >= book.firms.count) {
            return NONE;
        }
        duties.assess(book);
        for (int firm = 0; firm < book.firms.count; firm++) {
            if (duties.placeOf(firm, book.firms.count) == k) {
                return firm;
            }
        }
        return NONE;
    }

    public int write(int firm) throws IndexOutOfBoundsException {
        needFirm(firm);
        duties.assess(book);
        report.length = 0;
        for (int k = 0; k < book.firms.lengths[firm]; k++) {
            report.add(book.firms.letterAt(firm, k));
        }
        report.add(' ');
        report.addHundredths(duties.duty[firm]);
        report.add('%');
        if (book.silent[firm]) {
            report.addText(" silent");
        }
        if (duties.negligible[firm]) {
            report.addText(" negligible");
        }
        return report.length;
    }

    public int octet(int k) {
        return k < 0 || k >= report.length ? NONE : report.bytes[k];
    }

    public int count(int what) {
        switch (what) {
            case 0:
                return book.models.count;
            case 1:
                return book.firms.count;
            case 2:
                return book.sales.count;
            case 3:
                return book.sales.countLive();
            case 4:
            case 5:
            case 6:
            case 7:
            case 8:
            case 9:
                return book.settings[what - 4];
            case 10:
                return acts.count;
            case 11:
                return report.length;
            case 12:
                return book.countSilent();
            default:
                return NONE;
        }
    }

    // ---- what a call needs

    private void needFirm(int firm) {
        if (firm < 0 || firm >= book.firms.count) {
            throw new IndexOutOfBoundsException("there is no such firm");
        }
    }

    private void needModel(int model) {
        if (model < 0 || model >= book.models.count) {
            throw new IndexOutOfBoundsException("there is no such model");
        }
    }

    private void needSale(int sale) {
        if (sale < 0 || sale >= book.sales.count || !book.sales.live[sale]) {
            throw new IndexOutOfBoundsException("there is no such sale");
        }
    }

    private void needExport(int sale) {
        needSale(sale);
        if (book.sales.market[sale] != EXPORT) {
            throw new IllegalArgumentException("the sale is no export");
        }
    }

    private static void needWithin(int number, int least, int most) {
        if (number < least || number > most) {
            throw new IllegalArgumentException("the number is none");
        }
    }

    private static int mostOfSetting(int what) {
        return what == METHOD ? METHODS - 1 : what == PROFIT || what == STEP ? MOST_PART : 1;
    }

    /** NAMES of one kind, as they come. */
    private static final class Names {
        final byte[] letters = new byte[MODELS * LETTERS];
        final int[] lengths = new int[MODELS];
        int count;

        int find(byte[] text, int from, int to) {
            for (int i = 0; i < count; i++) {
                if (lengths[i] == to - from && isAt(i, text, from)) {
                    return i;
                }
            }
            return NONE;
        }

        boolean isAt(int i, byte[] text, int from) {
            for (int k = 0; k < lengths[i]; k++) {
                if (letters[i * LETTERS + k] != text[from + k]) {
                    return false;
                }
            }
            return true;
        }

        void add(byte[] text, int from, int to) {
            if (count >= MODELS || to - from > LETTERS) {
                return;
            }
            for (int k = 0; k < to - from; k++) {
                letters[count * LETTERS + k] = text[from + k];
            }
            lengths[count] = to - from;
            count++;
        }

        int letterAt(int i, int k) {
            return k < 0 || k >= lengths[i] ? NONE : letters[i * LETTERS + k];
        }
    }

    /** All SALES; those dropped keep their rows and are not live. */
    private static final class Sales {
        final int[] market = new int[SALES];
        final int[] firm = new int[SALES];
        final int[] model = new int[SALES];
        final int[] level = new int[SALES];
        final int[] month = new int[SALES];
        final int[] many = new int[SALES];
        final int[] price = new int[SALES];
        final int[] off = new int[SALES];
        final int[] net = new int[SALES];
        final boolean[] live = new boolean[SALES];
        int count;

        void add(int itsMarket, int itsFirm, int itsModel, int itsLevel, int itsMonth, int itsMany, int itsPrice) {
            if (count >= SALES) {
                return;
            }
            market[count] = itsMarket;
            firm[count] = itsFirm;
            model[count] = itsModel;
            level[count] = itsLevel;
            month[count] = itsMonth;
            many[count] = itsMany;
            price[count] = itsPrice;
            live[count] = true;
            count++;
        }

        boolean isOf(int sale, int itsFirm, int itsMarket) {
            return live[sale] && firm[sale] == itsFirm && market[sale] == itsMarket;
        }

        long valueAt(int sale) {
            return THOUSAND * net[sale] * many[sale];
        }

        long exportValue(int itsFirm) {
            long value = 0;
            for (int i = 0; i < count; i++) {
                if (isOf(i, itsFirm, EXPORT)) {
                    value += valueAt(i);
                }
            }
            return value;
        }

        int exportMany(int itsFirm) {
            int all = 0;
            for (int i = 0; i < count; i++) {
                if (isOf(i, itsFirm, EXPORT)) {
                    all += many[i];
                }
            }
            return all;
        }

        int countLive() {
            int all = 0;
            for (int i = 0; i < count; i++) {
                if (live[i]) {
                    all++;
                }
            }
            return all;
        }
    }

    /**
     * The SUMS of all MARKETS, operands ahead of their signs, so that a small stack works them out.
     * A code of 0 and above is a number; each code comes from a byte of the text or more, so all fit.
     */
    private static final class Sums {
        static final int MANY = -1;
        static final int PRICE = -2;
        static final int LEVEL = -3;
        static final int MONTH = -4;
        static final int COST = -5;
        static final int PLUS = -6;
        static final int MINUS = -7;
        static final int TIMES = -8;
        static final int BY = -9;
        static final long BOUND = 1000000L;
        // Two operands wait at most at each of the seven depths, and one more is at work.
        static final int STACK = 16;

        final int[] code = new int[BYTES];
        final int[] from = new int[MARKETS];
        final int[] to = new int[MARKETS];
        final long[] stack = new long[STACK];
        int length;

        void clear() {
            length = 0;
            for (int market = 0; market < MARKETS; market++) {
                from[market] = 0;
                to[market] = 0;
            }
        }

        void emit(int op) {
            if (length < BYTES) {
                code[length] = op;
                length++;
            }
        }

        void tell(int market, int start) {
            from[market] = start;
            to[market] = length;
        }

        int offOf(Sales sales, int sale, int cost) {
            int market = sales.market[sale];
            int top = 0;
            for (int i = from[market]; i < to[market]; i++) {
                int op = code[i];
                if (op > PLUS) {
                    if (top < STACK) {
                        stack[top] = op >= 0 ? op : letterOf(op, sales, sale, cost);
                        top++;
                    }
                } else if (top >= 2) {
                    top--;
                    stack[top - 1] = apply(op, stack[top - 1], stack[top]);
                }
            }
            return top == 0 ? 0 : (int) stack[0];
        }

        static int letterOf(int op, Sales sales, int sale, int cost) {
            switch (op) {
                case MANY:
                    return sales.many[sale];
                case PRICE:
                    return sales.price[sale];
                case LEVEL:
                    return sales.level[sale];
                case MONTH:
                    return sales.month[sale];
                default:
                    return cost;
            }
        }

        static long apply(int op, long a, long b) {
            long c;
            switch (op) {
                case PLUS:
                    c = a + b;
                    break;
                case MINUS:
                    c = a - b;
                    break;
                case TIMES:
                    c = a * b;
                    break;
                default:
                    c = b == 0 ? 0 : Math.floorDiv(a, b);
                    break;
            }
            return Math.max(-BOUND, Math.min(BOUND, c));
        }
    }

    /** All that a text tells and that acts change. */
    private static final class Book {
        final Names models = new Names();
        final Names firms = new Names();
        final int[] ownCost = new int[MODELS];
        final int[] likeness = new int[MODELS];
        final int[] target = new int[MODELS];
        // For a FIRM and a MODEL; 0 where the MODEL's own COST counts.
        final int[] toldCost = new int[FIRMS * MODELS];
        final boolean[] silent = new boolean[FIRMS];
        final Sums sums = new Sums();
        final Sales sales = new Sales();
        final int[] settings = new int[SETTINGS];

        Book() {
            settings[PROFIT] = FIRST_PROFIT;
        }

        void clear() {
            models.count = 0;
            firms.count = 0;
            sales.count = 0;
            sums.clear();
            for (int i = 0; i < FIRMS * MODELS; i++) {
                toldCost[i] = 0;
            }
            for (int i = 0; i < FIRMS; i++) {
                silent[i] = false;
            }
            for (int i = 0; i < SETTINGS; i++) {
                settings[i] = 0;
            }
            settings[PROFIT] = FIRST_PROFIT;
        }

        int costOf(int firm, int model) {
            int told = toldCost[firm * MODELS + model];
            return told > 0 ? told : ownCost[model];
        }

        void workOut(int sale) {
            int cost = costOf(sales.firm[sale], sales.model[sale]);
            int off = sums.offOf(sales, sale, cost);
            sales.off[sale] = off;
            sales.net[sale] = Math.max(0, Math.min(MOST_NET, sales.price[sale] - off));
        }

        void workOutAll() {
            for (int i = 0; i < sales.count; i++) {
                workOut(i);
            }
        }

        void tellPrice(int sale, int price) {
            sales.price[sale] = price;
            workOut(sale);
        }

        void tellCost(int place, int cost) {
            toldCost[place] = cost;
            // Dropped sales are worked out too: undo may bring them back.
            for (int i = 0; i < sales.count; i++) {
                if (sales.firm[i] * MODELS + sales.model[i] == place) {
                    workOut(i);
                }
            }
        }

        boolean isZeroing() {
            return settings[ZEROING] != 0;
        }

        int methodOwed() {
            return settings[METHOD] == 2 ? 2 : 1;
        }

        int monthToCompare(int sale) {
            return settings[BY_MONTHS] != 0 ? sales.month[sale] : NONE;
        }

        int countSilent() {
            int all = 0;
            for (int firm = 0; firm < firms.count; firm++) {
                if (silent[firm]) {
                    all++;
                }
            }
            return all;
        }
    }

    /** The TAPE, and the reading of it. Every fault is at the first byte of the piece that stands next. */
    private static final class Reader {
        static final int WORD = 256;
        static final int NUMBER = 257;
        static final int END = 258;
        static final int MODEL = 0;
        static final int FIRM = 1;
        static final int SILENT = 2;
        static final int COST = 3;
        static final int ADJUST = 4;
        static final int SELL = 5;
        static final int PROFIT_WORD = 6;
        static final int STEP_WORD = 7;
        static final int FIRST_MARKET = 8;
        static final int LAST_MARKET = 10;
        static final int DIGITS = 5;
        static final int SUM_DIGITS = 4;
        static final int DEPTH = 6;

        final byte[] tape = new byte[BYTES];
        int length;
        int fault = NONE;
        private Book book;
        // The piece that stands next: tape[start] up to, not with, tape[at].
        private int kind;
        private int start;
        private int at;

        Reader(Book first) {
            book = first;
        }

        void append(int four) {
            for (int shift = 24; shift >= 0; shift -= 8) {
                if (length < BYTES) {
                    tape[length] = (byte) (four >> shift);
                    length++;
                }
            }
        }

        void parse(Book into) {
            book = into;
            book.clear();
            fault = NONE;
            at = 0;
            step();
            for (int i = 0; i < BYTES && kind != END && fault == NONE; i++) {
                line();
                take(';');
            }
            if (fault == NONE) {
                book.workOutAll();
            }
        }

        private void line() {
            switch (keyword()) {
                case MODEL:
                    modelLine();
                    break;
                case FIRM:
                    firmLine();
                    break;
                case SILENT:
                    silentLine();
                    break;
                case COST:
                    costLine();
                    break;
                case ADJUST:
                    adjustLine();
                    break;
                case SELL:
                    sellLine();
                    break;
                case PROFIT_WORD:
                    settingLine(PROFIT);
                    break;
                case STEP_WORD:
                    settingLine(STEP);
                    break;
                default:
                    fail();
                    break;
            }
        }

        private void modelLine() {
            int model = book.models.count;
            if (model >= MODELS) {
                fail();
                return;
            }
            step();
            newName(book.models);
            book.ownCost[model] = number(1, MOST_MONEY);
            book.likeness[model] = number(0, MOST_PART);
            book.target[model] = number(0, MOST_MONEY);
        }

        private void firmLine() {
            if (book.firms.count >= FIRMS) {
                fail();
                return;
            }
            step();
            newName(book.firms);
        }

        private void silentLine() {
            step();
            int firm = toldName(book.firms);
            if (fault == NONE) {
                book.silent[firm] = true;
            }
        }

        private void costLine() {
            step();
            int firm = toldName(book.firms);
            int model = toldName(book.models);
            int cost = number(1, MOST_MONEY);
            if (fault == NONE) {
                book.toldCost[firm * MODELS + model] = cost;
            }
        }

        private void adjustLine() {
            step();
            int market = marketWord();
            int first = book.sums.length;
            readSum(0);
            if (fault == NONE) {
                book.sums.tell(market, first);
            }
        }

        private void sellLine() {
            if (book.sales.count >= SALES) {
                fail();
                return;
            }
            step();
            int market = marketWord();
            int firm = toldName(book.firms);
            int model = toldName(book.models);
            int level = number(0, LEVELS - 1);
            int month = number(0, MONTHS - 1);
            int many = number(1, MOST_MANY);
            int price = number(1, MOST_MONEY);
            if (fault == NONE) {
                book.sales.add(market, firm, model, level, month, many, price);
            }
        }

        private void settingLine(int what) {
            step();
            book.settings[what] = number(0, MOST_PART);
        }

        private void readSum(int depth) {
            readTerm(depth);
            for (int i = 0; i < BYTES && fault == NONE && (kind == '+' || kind == '-'); i++) {
                int op = kind == '+' ? Sums.PLUS : Sums.MINUS;
                step();
                readTerm(depth);
                book.sums.emit(op);
            }
        }

        private void readTerm(int depth) {
            readAtom(depth);
            for (int i = 0; i < BYTES && fault == NONE && (kind == '*' || kind == '/'); i++) {
                int op = kind == '*' ? Sums.TIMES : Sums.BY;
                step();
                readAtom(depth);
                book.sums.emit(op);
            }
        }

        private void readAtom(int depth) {
            if (fault != NONE) {
                return;
            }
            if (kind == '(' && depth < DEPTH) {
                step();
                readSum(depth + 1);
                take(')');
            } else if (kind == NUMBER && at - start <= SUM_DIGITS) {
                book.sums.emit(digits());
                step();
            } else if (kind == WORD && at - start == 1 && letterCode() != 0) {
                book.sums.emit(letterCode());
                step();
            } else {
                fail();
            }
        }

        private int letterCode() {
            switch (tape[start]) {
                case 'q':
                    return Sums.MANY;
                case 'p':
                    return Sums.PRICE;
                case 'l':
                    return Sums.LEVEL;
                case 'm':
                    return Sums.MONTH;
                case 'c':
                    return Sums.COST;
                default:
                    return 0;
            }
        }

        private void newName(Names names) {
            if (fault != NONE) {
                return;
            }
            boolean isName = kind == WORD && at - start <= LETTERS && keyword() == NONE;
            if (!isName || names.find(tape, start, at) != NONE) {
                fail();
                return;
            }
            names.add(tape, start, at);
            step();
        }

        private int toldName(Names names) {
            if (fault != NONE) {
                return NONE;
            }
            int told = kind == WORD ? names.find(tape, start, at) : NONE;
            if (told == NONE) {
                fail();
            } else {
                step();
            }
            return told;
        }

        private int marketWord() {
            int word = keyword();
            if (fault != NONE || word < FIRST_MARKET || word > LAST_MARKET) {
                fail();
                return NONE;
            }
            step();
            return word - FIRST_MARKET;
        }

        private int number(int least, int most) {
            if (fault != NONE) {
                return NONE;
            }
            int number = kind == NUMBER && at - start <= DIGITS ? digits() : NONE;
            if (number < least || number > most) {
                fail();
                return NONE;
            }
            step();
            return number;
        }

        private void take(int sign) {
            if (kind == sign && fault == NONE) {
                step();
            } else {
                fail();
            }
        }

        private void fail() {
            if (fault == NONE) {
                fault = start;
            }
        }

        /** Only for numbers of DIGITS at most: longer ones are refused ahead of this. */
        private int digits() {
            int number = 0;
            for (int i = start; i < at; i++) {
                number = number * 10 + (tape[i] - '0');
            }
            return number;
        }

        private int keyword() {
            if (kind != WORD) {
                return NONE;
            }
            if (spells("model")) {
                return MODEL;
            }
            if (spells("firm")) {
                return FIRM;
            }
            if (spells("silent")) {
                return SILENT;
            }
            if (spells("cost")) {
                return COST;
            }
            if (spells("adjust")) {
                return ADJUST;
            }
            if (spells("sell")) {
                return SELL;
            }
            if (spells("profit")) {
                return PROFIT_WORD;
            }
            if (spells("step")) {
                return STEP_WORD;
            }
            if (spells("home")) {
                return FIRST_MARKET + HOME;
            }
            if (spells("export")) {
                return FIRST_MARKET + EXPORT;
            }
            if (spells("third")) {
                return FIRST_MARKET + THIRD;
            }
            return NONE;
        }

        private boolean spells(String word) {
            if (at - start != word.length()) {
                return false;
            }
            for (int k = 0; k < word.length(); k++) {
                if (tape[start + k] != word.charAt(k)) {
                    return false;
                }
            }
            return true;
        }

        /** To the next piece, over blanks. */
        private void step() {
            while (at < length && isBlank(tape[at])) {
                at++;
            }
            start = at;
            if (at >= length) {
                kind = END;
            } else if (isLetter(tape[at])) {
                kind = WORD;
                while (at < length && isLetter(tape[at])) {
                    at++;
                }
            } else if (isDigit(tape[at])) {
                kind = NUMBER;
                while (at < length && isDigit(tape[at])) {
                    at++;
                }
            } else {
                kind = tape[at];
                at++;
            }
        }

        private static boolean isBlank(int b) {
            return b == 9 || b == 10 || b == 32;
        }

        private static boolean isLetter(int b) {
            return b >= 'a' && b <= 'z';
        }

        private static boolean isDigit(int b) {
            return b >= '0' && b <= '9';
        }
    }

    /** The latest ACTS, each with the place that it changed and what stood there. */
    private static final class Acts {
        static final int KEPT = 16;

        final int[] kind = new int[KEPT];
        final int[] place = new int[KEPT];
        final int[] old = new int[KEPT];
        int count;
        // Where the next one is kept: over the oldest, when all rows are used.
        private int next;

        void keep(int itsKind, int itsPlace, int itsOld) {
            kind[next] = itsKind;
            place[next] = itsPlace;
            old[next] = itsOld;
            next = (next + 1) % KEPT;
            count = Math.min(KEPT, count + 1);
        }

        void takeBack(Book book) {
            if (count == 0) {
                return;
            }
            next = (next + KEPT - 1) % KEPT;
            count--;
            int where = place[next];
            switch (kind[next]) {
                case PUT:
                    book.sales.count = where;
                    break;
                case DROPPED:
                    book.sales.live[where] = true;
                    break;
                case PRICED:
                    book.tellPrice(where, old[next]);
                    break;
                case COSTED:
                    book.tellCost(where, old[next]);
                    break;
                case SETTLED:
                    book.settings[where] = old[next];
                    break;
                default:
                    book.silent[where] = old[next] != 0;
                    break;
            }
        }
    }

    /** One FIRM's BASE: which of its SALES are BELOW and IN, and the WORTHS that follow from them. */
    private static final class Study {
        final int[] allMany = new int[MODELS];
        final int[] belowMany = new int[MODELS];
        final boolean[] below = new boolean[SALES];
        final boolean[] in = new boolean[SALES];
        int base = NONE;
        private final boolean[] hasIn = new boolean[MODELS];
        // Of IN ones, by MODEL and LEVEL.
        private final int[] inMany = new int[MODELS * LEVELS];
        private final long[] inValue = new long[MODELS * LEVELS];
        private final int[] marketMany = new int[MARKETS];
        private Book book;
        private int firm;

        Study(Book first) {
            book = first;
        }

        void look(Book itsBook, int itsFirm) {
            book = itsBook;
            firm = itsFirm;
            chooseBase();
            countBelow();
            countIn();
        }

        private void chooseBase() {
            for (int market = 0; market < MARKETS; market++) {
                marketMany[market] = 0;
            }
            Sales sales = book.sales;
            for (int i = 0; i < sales.count; i++) {
                if (sales.live[i] && sales.firm[i] == firm) {
                    marketMany[sales.market[i]] += sales.many[i];
                }
            }
            base = canBeBase(HOME) ? HOME : canBeBase(THIRD) ? THIRD : NONE;
        }

        private boolean canBeBase(int market) {
            return marketMany[market] > 0 && 20 * marketMany[market] >= marketMany[EXPORT];
        }

        /** Leaves in the row of IN ones all that are in BASE: countIn takes out of it what is OUT. */
        private void countBelow() {
            for (int model = 0; model < MODELS; model++) {
                allMany[model] = 0;
                belowMany[model] = 0;
            }
            Sales sales = book.sales;
            for (int i = 0; i < sales.count; i++) {
                int model = sales.model[i];
                in[i] = base != NONE && sales.isOf(i, firm, base);
                below[i] = in[i] && sales.net[i] < book.costOf(firm, model);
                allMany[model] += in[i] ? sales.many[i] : 0;
                belowMany[model] += below[i] ? sales.many[i] : 0;
            }
        }

        private void countIn() {
            for (int model = 0; model < MODELS; model++) {
                hasIn[model] = false;
            }
            for (int i = 0; i < MODELS * LEVELS; i++) {
                inMany[i] = 0;
                inValue[i] = 0;
            }
            Sales sales = book.sales;
            for (int i = 0; i < sales.count; i++) {
                int model = sales.model[i];
                in[i] = in[i] && !(below[i] && leavesOut(model));
                if (in[i]) {
                    int place = model * LEVELS + sales.level[i];
                    inMany[place] += sales.many[i];
                    inValue[place] += sales.valueAt(i);
                    hasIn[model] = true;
                }
            }
        }

        boolean leavesOut(int model) {
            return belowMany[model] > 0 && 5 * belowMany[model] >= allMany[model];
        }

        /** The MODEL by whose SALES a WORTH is found: itself, another, or NONE. */
        int modelFor(int model) {
            if (hasIn[model]) {
                return model;
            }
            int best = NONE;
            int bestApart = 0;
            int own = book.costOf(firm, model);
            for (int other = 0; other < book.models.count; other++) {
                if (hasIn[other] && 5 * Math.abs(book.costOf(firm, other) - own) <= own) {
                    int apart = Math.abs(book.likeness[other] - book.likeness[model]);
                    if (best == NONE || apart < bestApart) {
                        best = other;
                        bestApart = apart;
                    }
                }
            }
            return best;
        }

        /** The nearest LEVEL at which a MODEL has IN ones; of two alike the lower, as it comes first. */
        int levelFor(int model, int level) {
            int best = NONE;
            for (int other = 0; model != NONE && other < LEVELS; other++) {
                if (inMany[model * LEVELS + other] > 0
                        && (best == NONE || Math.abs(other - level) < Math.abs(best - level))) {
                    best = other;
                }
            }
            return best;
        }

        long worthAt(int model, int level, int month) {
            int cost = book.costOf(firm, model);
            int like = modelFor(model);
            int near = levelFor(like, level);
            if (like == NONE || near == NONE) {
                return THOUSAND * (cost + cost * book.settings[PROFIT] / 100);
            }
            int more = book.settings[STEP] * (level - near) + cost - book.costOf(firm, like);
            return Math.max(0L, averageAt(like, near, month) + THOUSAND * more);
        }

        private long averageAt(int model, int level, int month) {
            int all = inMany[model * LEVELS + level];
            long value = inValue[model * LEVELS + level];
            Sales sales = book.sales;
            int ofMonth = 0;
            long valueOfMonth = 0;
            for (int i = 0; month != NONE && i < sales.count; i++) {
                if (in[i] && sales.model[i] == model && sales.level[i] == level && sales.month[i] == month) {
                    ofMonth += sales.many[i];
                    valueOfMonth += sales.valueAt(i);
                }
            }
            if (ofMonth > 0) {
                return valueOfMonth / ofMonth;
            }
            return all > 0 ? value / all : 0;
        }

        int matchFor(int export) {
            Sales sales = book.sales;
            int best = NONE;
            int bestApart = 0;
            for (int i = 0; i < sales.count; i++) {
                if (in[i] && sales.model[i] == sales.model[export]) {
                    int apart = apart(i, export);
                    if (best == NONE || apart < bestApart) {
                        best = i;
                        bestApart = apart;
                    }
                }
            }
            return best;
        }

        /** LEVEL, MONTH and MANY in one number: no difference in a later one outweighs one in an earlier. */
        private int apart(int sale, int export) {
            Sales sales = book.sales;
            int levels = Math.abs(sales.level[sale] - sales.level[export]);
            int months = Math.abs(sales.month[sale] - sales.month[export]);
            int many = Math.abs(sales.many[sale] - sales.many[export]);
            return (levels * MONTHS + months) * (MOST_MANY + 1) + many;
        }

        long worthByMatch(int export, int match) {
            Sales sales = book.sales;
            int more = book.settings[STEP] * (sales.level[export] - sales.level[match]);
            return THOUSAND * Math.max(0, sales.net[match] + more);
        }
    }

    /**
     * One FIRM's EXPORTS against their WORTHS, in units: GROUPS by METHOD 0, else each EXPORT by itself,
     * whose average is its own NET. RAISE is what an UNDERTAKING puts to each NET; it raises every average alike.
     */
    private static final class Comparison {
        final Study study;
        final int[] firstSale = new int[SALES];
        final int[] many = new int[SALES];
        final long[] average = new long[SALES];
        final long[] worth = new long[SALES];
        int units;
        private long value;
        private long allMany;

        Comparison(Study itsStudy) {
            study = itsStudy;
        }

        void gather(Book book, int firm, int method) {
            study.look(book, firm);
            units = 0;
            value = 0;
            allMany = 0;
            for (int i = 0; i < book.sales.count; i++) {
                if (book.sales.isOf(i, firm, EXPORT)) {
                    addExport(book, i, method == 0);
                }
            }
            for (int unit = 0; unit < units; unit++) {
                average[unit] = many[unit] > 0 ? average[unit] / many[unit] : 0;
                worth[unit] = worthFor(book, firstSale[unit], method);
            }
        }

        /** Until all are in, a unit's average holds what it is to be divided from. */
        private void addExport(Book book, int sale, boolean grouped) {
            int unit = grouped ? unitLike(book, sale) : units;
            if (unit >= SALES) {
                return;
            }
            if (unit == units) {
                firstSale[unit] = sale;
                many[unit] = 0;
                average[unit] = 0;
                units++;
            }
            many[unit] += book.sales.many[sale];
            average[unit] += book.sales.valueAt(sale);
            value += book.sales.valueAt(sale);
            allMany += book.sales.many[sale];
        }

        private int unitLike(Book book, int sale) {
            Sales sales = book.sales;
            for (int unit = 0; unit < units; unit++) {
                int first = firstSale[unit];
                if (sales.model[first] == sales.model[sale] && sales.level[first] == sales.level[sale]
                        && book.monthToCompare(first) == book.monthToCompare(sale)) {
                    return unit;
                }
            }
            return units;
        }

        private long worthFor(Book book, int sale, int method) {
            int match = method == 2 ? study.matchFor(sale) : NONE;
            if (match != NONE) {
                return study.worthByMatch(sale, match);
            }
            return study.worthAt(book.sales.model[sale], book.sales.level[sale], book.monthToCompare(sale));
        }

        long differenceFor(Book book, int sale, int method) {
            study.look(book, book.sales.firm[sale]);
            return (worthFor(book, sale, method) - THOUSAND * book.sales.net[sale]) * book.sales.many[sale];
        }

        long differenceAt(int unit, int raise) {
            return (worth[unit] - average[unit] - THOUSAND * raise) * many[unit];
        }

        long sumAt(boolean zeroing, int raise) {
            long sum = 0;
            for (int unit = 0; unit < units; unit++) {
                long difference = differenceAt(unit, raise);
                sum += zeroing ? Math.max(0L, difference) : difference;
            }
            return sum;
        }

        /** What MARGIN and INJURY have in common: ten-thousandths, and what they are where VALUE is 0. */
        static int marginOf(long sum, long value) {
            if (value <= 0) {
                return sum == 0 ? 0 : MOST_MARGIN;
            }
            long margin = Math.floorDiv(10000L * sum, value);
            return (int) Math.max(0L, Math.min((long) MOST_MARGIN, margin));
        }

        private int marginAt(boolean zeroing, int raise) {
            return marginOf(sumAt(zeroing, raise), value + THOUSAND * raise * allMany);
        }

        int ownMargin(Book book, int firm, int method, boolean zeroing) {
            gather(book, firm, method);
            return marginAt(zeroing, 0);
        }

        int marginNow(Book book, int firm) {
            gather(book, firm, book.settings[METHOD]);
            return marginAt(book.isZeroing(), 0);
        }

        int marginWithout(Book book, int sale) {
            book.sales.live[sale] = false;
            int margin = marginNow(book, book.sales.firm[sale]);
            book.sales.live[sale] = true;
            return margin;
        }

        /** A greater raise never makes the margin greater, so the least one is found by halving. */
        int leastRaise(boolean zeroing) {
            if (marginAt(zeroing, MOST_RAISE) >= LEAST_MARGIN) {
                return NONE;
            }
            int low = 0;
            int high = MOST_RAISE;
            for (int i = 0; i < MOST_RAISE && low < high; i++) {
                int middle = (low + high) / 2;
                if (marginAt(zeroing, middle) < LEAST_MARGIN) {
                    high = middle;
                } else {
                    low = middle + 1;
                }
            }
            return low;
        }
    }

    /** All FIRMS' numbers beside one another, as many of them rest on those of the others. */
    private static final class Duties {
        final Comparison comparison;
        final int[] margin = new int[FIRMS];
        final int[] rate = new int[FIRMS];
        final int[] injury = new int[FIRMS];
        final int[] duty = new int[FIRMS];
        final boolean[] negligible = new boolean[FIRMS];
        private final int[] exportMany = new int[FIRMS];
        private final int[] monthMany = new int[MONTHS];
        private final long[] monthValue = new long[MONTHS];
        private int targetMany;

        Duties(Comparison itsComparison) {
            comparison = itsComparison;
        }

        void assess(Book book) {
            markNegligible(book);
            int greatest = 0;
            for (int firm = 0; firm < book.firms.count; firm++) {
                margin[firm] = comparison.marginNow(book, firm);
                if (!book.silent[firm]) {
                    greatest = Math.max(greatest, margin[firm]);
                }
            }
            for (int firm = 0; firm < book.firms.count; firm++) {
                if (book.silent[firm]) {
                    margin[firm] = greatest;
                }
                boolean isFree = negligible[firm] || exportMany[firm] == 0 || margin[firm] < LEAST_MARGIN;
                rate[firm] = isFree ? 0 : margin[firm];
                injury[firm] = injuryOf(book, firm);
                boolean isLesser = book.settings[LESSER] != 0 && targetMany > 0;
                duty[firm] = isLesser ? Math.min(rate[firm], injury[firm]) : rate[firm];
            }
        }

        int marginTold(Book book, int firm, int method, boolean zeroing) {
            if (!book.silent[firm]) {
                return comparison.ownMargin(book, firm, method, zeroing);
            }
            int greatest = 0;
            for (int other = 0; other < book.firms.count; other++) {
                if (!book.silent[other]) {
                    greatest = Math.max(greatest, comparison.ownMargin(book, other, method, zeroing));
                }
            }
            return greatest;
        }

        void markNegligible(Book book) {
            int all = 0;
            for (int firm = 0; firm < book.firms.count; firm++) {
                exportMany[firm] = book.sales.exportMany(firm);
                all += exportMany[firm];
            }
            int small = 0;
            for (int firm = 0; firm < book.firms.count; firm++) {
                negligible[firm] = exportMany[firm] > 0 && 100 * exportMany[firm] < 3 * all;
                small += negligible[firm] ? exportMany[firm] : 0;
            }
            if (100 * small > 7 * all) {
                for (int firm = 0; firm < book.firms.count; firm++) {
                    negligible[firm] = false;
                }
            }
        }

        /** Leaves in targetMany how much was sold with a TARGET: without any there is no lesser DUTY. */
        private int injuryOf(Book book, int firm) {
            Sales sales = book.sales;
            long sum = 0;
            long value = 0;
            targetMany = 0;
            for (int i = 0; i < sales.count; i++) {
                int target = book.target[sales.model[i]];
                if (target > 0 && sales.isOf(i, firm, EXPORT)) {
                    sum += THOUSAND * (target - sales.net[i]) * sales.many[i];
                    value += sales.valueAt(i);
                    targetMany += sales.many[i];
                }
            }
            return Comparison.marginOf(sum, value);
        }

        int rateOfOthers(Book book) {
            long rates = 0;
            long values = 0;
            for (int firm = 0; firm < book.firms.count; firm++) {
                if (!book.silent[firm] && rate[firm] > 0) {
                    long value = book.sales.exportValue(firm);
                    rates += rate[firm] * value;
                    values += value;
                }
            }
            return values == 0 ? 0 : (int) (rates / values);
        }

        int pickedMonths(Sales sales, int firm) {
            for (int month = 0; month < MONTHS; month++) {
                monthMany[month] = 0;
                monthValue[month] = 0;
            }
            int all = 0;
            long value = 0;
            for (int i = 0; i < sales.count; i++) {
                if (sales.isOf(i, firm, EXPORT)) {
                    monthMany[sales.month[i]] += sales.many[i];
                    monthValue[sales.month[i]] += sales.valueAt(i);
                    all += sales.many[i];
                    value += sales.valueAt(i);
                }
            }
            int picked = 0;
            for (int month = 0; month < MONTHS; month++) {
                int ofOthers = all - monthMany[month];
                if (monthMany[month] > 0 && ofOthers > 0
                        && 100 * (monthValue[month] / monthMany[month])
                        < 98 * ((value - monthValue[month]) / ofOthers)) {
                    picked |= 1 << month;
                }
            }
            return picked;
        }

        long depositOf(Sales sales, int sale) {
            return (long) rate[sales.firm[sale]] * sales.net[sale] * sales.many[sale] / 10;
        }

        long depositsOf(Sales sales, int firm) {
            long deposits = 0;
            for (int i = 0; i < sales.count; i++) {
                if (sales.isOf(i, firm, EXPORT)) {
                    deposits += depositOf(sales, i);
                }
            }
            return deposits;
        }

        /** How many FIRMS stand ahead of one by DUTY: a greater one, or as great and told ahead. */
        int placeOf(int firm, int firms) {
            int ahead = 0;
            for (int other = 0; other < firms; other++) {
                if (duty[other] > duty[firm] || (duty[other] == duty[firm] && other < firm)) {
                    ahead++;
                }
            }
            return ahead;
        }
    }

    /** What was WRITTEN latest. */
    private static final class Report {
        static final int ROOM = 64;

        final byte[] bytes = new byte[ROOM];
        int length;

        void add(int b) {
            if (length < ROOM) {
                bytes[length] = (byte) b;
                length++;
            }
        }

        void addText(String text) {
            for (int k = 0; k < text.length(); k++) {
                add(text.charAt(k));
            }
        }

        /** The zeros ahead of the unit's digit are left out. */
        void addHundredths(int number) {
            for (int unit = 10000; unit > 0; unit /= 10) {
                if (unit == 10) {
                    add('.');
                }
                if (unit <= 100 || number >= unit) {
                    add('0' + number / unit % 10);
                }
            }
        }
    }
}
