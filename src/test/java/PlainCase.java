import java.util.ArrayList;
import java.util.Arrays;
import java.util.HashMap;
import java.util.LinkedHashMap;
import java.util.List;
import java.util.Map;
import java.util.NoSuchElementException;
import java.util.TreeMap;
import java.util.function.Predicate;
import java.util.stream.Collectors;

/**
 * The document told a second time, as plainly and as slowly as can be, with nothing kept between calls:
 * what DutyCase answers is compared with it. It shares no code and no way of working with the program.
 */
public final class PlainCase {
    static final List<String> WORDS = List.of("model", "firm", "silent", "cost", "adjust", "sell", "profit", "step",
            "home", "export", "third");
    static final List<String> MARKETS = List.of("home", "export", "third");

    interface Sum {
        long of(Map<Character, Integer> letters);
    }

    record Model(String name, int cost, int likeness, int target) { }

    record Sale(int number, int market, int firm, int model, int level, int month, int many, int price) { }

    static final class State {
        List<Model> models = new ArrayList<>();
        List<String> firms = new ArrayList<>();
        Map<List<Integer>, Integer> costs = new HashMap<>();
        Map<Integer, Sum> sums = new HashMap<>();
        List<Sale> sales = new ArrayList<>();
        List<Integer> dropped = new ArrayList<>();
        List<Integer> silent = new ArrayList<>();
        int[] told = {0, 0, 0, 0, 10, 0};

        State copy() {
            State s = new State();
            s.models.addAll(models);
            s.firms.addAll(firms);
            s.costs.putAll(costs);
            s.sums.putAll(sums);
            s.sales.addAll(sales);
            s.dropped.addAll(dropped);
            s.silent.addAll(silent);
            s.told = told.clone();
            return s;
        }
    }

    /** Carries a fault's place out of the reading. */
    static final class Wrong extends RuntimeException {
        private static final long serialVersionUID = 1L;
        final int at;

        Wrong(int at) {
            this.at = at;
        }
    }

    private State now = new State();
    private final List<State> before = new ArrayList<>();
    private String tape = "";
    private String written = "";
    private int fault = -1;

    // ---- the text

    record Piece(int at, String text) {
        boolean isWord() {
            return !text.isEmpty() && Character.isLetter(text.charAt(0)) && text.charAt(0) < 128;
        }

        boolean isNumber() {
            return !text.isEmpty() && Character.isDigit(text.charAt(0)) && text.charAt(0) < 128;
        }
    }

    static List<Piece> pieces(String text) {
        List<Piece> all = new ArrayList<>();
        java.util.regex.Matcher m = java.util.regex.Pattern
                .compile("[a-z]+|[0-9]+|[^\\t\\n ]", java.util.regex.Pattern.DOTALL).matcher(text);
        while (m.find()) {
            all.add(new Piece(m.start(), m.group()));
        }
        all.add(new Piece(text.length(), ""));
        return all;
    }

    static final class Telling {
        final List<Piece> pieces;
        final State s = new State();
        int i;

        Telling(String text) {
            pieces = pieces(text);
        }

        Piece next() {
            return pieces.get(i);
        }

        void need(boolean good) {
            if (!good) {
                throw new Wrong(next().at());
            }
        }

        void sign(String sign) {
            need(next().text().equals(sign));
            i++;
        }

        int number(int least, int most) {
            need(next().isNumber() && next().text().length() <= 5);
            int n = Integer.parseInt(next().text());
            need(n >= least && n <= most);
            i++;
            return n;
        }

        int told(List<String> names) {
            int n = names.indexOf(next().text());
            need(n >= 0);
            i++;
            return n;
        }

        String fresh(List<String> names) {
            String name = next().text();
            need(name.matches("[a-z]{1,6}") && !WORDS.contains(name) && !names.contains(name));
            i++;
            return name;
        }

        List<String> modelNames() {
            return s.models.stream().map(Model::name).collect(Collectors.toList());
        }

        State all() {
            while (!next().text().isEmpty()) {
                line();
                sign(";");
            }
            return s;
        }

        void line() {
            String word = next().text();
            need(WORDS.indexOf(word) >= 0 && WORDS.indexOf(word) < 8);
            need(!(word.equals("model") && s.models.size() == 6));
            need(!(word.equals("firm") && s.firms.size() == 4));
            need(!(word.equals("sell") && s.sales.size() == 40));
            i++;
            if (word.equals("model")) {
                String name = fresh(modelNames());
                s.models.add(new Model(name, number(1, 9999), number(0, 99), number(0, 9999)));
            } else if (word.equals("firm")) {
                s.firms.add(fresh(s.firms));
            } else if (word.equals("silent")) {
                Integer firm = told(s.firms);
                if (!s.silent.contains(firm)) {
                    s.silent.add(firm);
                }
            } else if (word.equals("cost")) {
                int firm = told(s.firms);
                int model = told(modelNames());
                s.costs.put(List.of(firm, model), number(1, 9999));
            } else if (word.equals("adjust")) {
                int market = told(MARKETS);
                s.sums.put(market, sum(0));
            } else if (word.equals("sell")) {
                int market = told(MARKETS);
                int firm = told(s.firms);
                int model = told(modelNames());
                s.sales.add(new Sale(s.sales.size(), market, firm, model, number(0, 3), number(0, 11),
                        number(1, 999), number(1, 9999)));
            } else {
                s.told[word.equals("profit") ? 4 : 5] = number(0, 99);
            }
        }

        Sum sum(int open) {
            Sum a = term(open);
            while (next().text().equals("+") || next().text().equals("-")) {
                boolean plus = pieces.get(i++).text().equals("+");
                Sum left = a;
                Sum right = term(open);
                a = x -> kept(plus ? left.of(x) + right.of(x) : left.of(x) - right.of(x));
            }
            return a;
        }

        Sum term(int open) {
            Sum a = atom(open);
            while (next().text().equals("*") || next().text().equals("/")) {
                boolean times = pieces.get(i++).text().equals("*");
                Sum left = a;
                Sum right = atom(open);
                a = x -> {
                    long l = left.of(x);
                    long r = right.of(x);
                    return kept(times ? l * r : r == 0 ? 0 : down(l, r));
                };
            }
            return a;
        }

        Sum atom(int open) {
            String text = next().text();
            if (text.equals("(")) {
                need(open < 6);
                i++;
                Sum inner = sum(open + 1);
                sign(")");
                return inner;
            }
            if (next().isNumber()) {
                need(text.length() <= 4);
                i++;
                return x -> Integer.parseInt(text);
            }
            need(text.matches("[qplmc]"));
            i++;
            return x -> x.get(text.charAt(0));
        }
    }

    static long kept(long n) {
        return n < -1000000 ? -1000000 : n > 1000000 ? 1000000 : n;
    }

    static long down(long a, long b) {
        return new java.math.BigDecimal(a).divide(new java.math.BigDecimal(b), 0, java.math.RoundingMode.FLOOR)
                .longValueExact();
    }

    public int feed(int a, int b, int c, int d, int e) {
        if (tape.length() > 380) {
            return -1;
        }
        for (int n : new int[] {a, b, c, d, e}) {
            for (int k = 3; k >= 0; k--) {
                tape += (char) ((n >> (8 * k)) & 255);
            }
        }
        return tape.length();
    }

    public boolean end(int n) {
        if (n < 0 || n > tape.length()) {
            return false;
        }
        tape = tape.substring(0, n);
        return true;
    }

    public int read() {
        String text = tape;
        tape = "";
        try {
            now = new Telling(text).all();
        } catch (Wrong w) {
            fault = w.at;
            throw new IllegalArgumentException();
        }
        fault = -1;
        before.clear();
        return now.sales.size();
    }

    public int fault() {
        return fault;
    }

    // ---- what is there

    private void firmIs(int firm) {
        if (firm < 0 || firm >= now.firms.size()) {
            throw new IndexOutOfBoundsException();
        }
    }

    private void modelIs(int model) {
        if (model < 0 || model >= now.models.size()) {
            throw new IndexOutOfBoundsException();
        }
    }

    private Sale saleIs(int sale) {
        if (sale < 0 || sale >= now.sales.size() || now.dropped.contains(sale)) {
            throw new IndexOutOfBoundsException();
        }
        return now.sales.get(sale);
    }

    private Sale exportIs(int sale) {
        Sale s = saleIs(sale);
        good(s.market == 1);
        return s;
    }

    private static void good(boolean is) {
        if (!is) {
            throw new IllegalArgumentException();
        }
    }

    private static void there(boolean is) {
        if (!is) {
            throw new NoSuchElementException();
        }
    }

    public int name(boolean firm, int i, int k) {
        if (firm) {
            firmIs(i);
        } else {
            modelIs(i);
        }
        String name = firm ? now.firms.get(i) : now.models.get(i).name;
        return k >= 0 && k < name.length() ? name.charAt(k) : -1;
    }

    public int model(int model, int what) {
        modelIs(model);
        there(what >= 0 && what <= 2);
        Model m = now.models.get(model);
        return what == 0 ? m.cost : what == 1 ? m.likeness : m.target;
    }

    public int cost(int firm, int model) {
        firmIs(firm);
        modelIs(model);
        return now.costs.getOrDefault(List.of(firm, model), now.models.get(model).cost);
    }

    private long off(Sale s) {
        Sum sum = now.sums.get(s.market);
        return sum == null ? 0
                : sum.of(Map.of('q', s.many, 'p', s.price, 'l', s.level, 'm', s.month, 'c', cost(s.firm, s.model)));
    }

    private long net(Sale s) {
        return Math.min(99999, Math.max(0, s.price - off(s)));
    }

    public int sale(int sale, int what) {
        Sale s = saleIs(sale);
        there(what >= 0 && what <= 10);
        long[] all = {s.market, s.firm, s.model, s.level, s.month, s.many, s.price, off(s), net(s),
            isBelow(s) ? 1 : 0, isIn(s) ? 1 : 0};
        return (int) all[what];
    }

    // ---- acts

    private void act() {
        before.add(now);
        if (before.size() > 16) {
            before.remove(0);
        }
        now = now.copy();
    }

    public int put(int market, int firm, int model, int level, int month, int many, int price) {
        firmIs(firm);
        modelIs(model);
        good(market >= 0 && market <= 2 && level >= 0 && level <= 3 && month >= 0 && month <= 11);
        good(many >= 1 && many <= 999 && price >= 1 && price <= 9999);
        if (now.sales.size() == 40) {
            throw new IllegalStateException();
        }
        act();
        now.sales.add(new Sale(now.sales.size(), market, firm, model, level, month, many, price));
        return now.sales.size() - 1;
    }

    public void drop(int sale) {
        saleIs(sale);
        act();
        now.dropped.add(sale);
    }

    public int price(int sale, int price) {
        Sale s = saleIs(sale);
        good(price >= 1 && price <= 9999);
        act();
        now.sales.set(sale, new Sale(sale, s.market, s.firm, s.model, s.level, s.month, s.many, price));
        return s.price;
    }

    public int costs(int firm, int model, int cost) {
        int old = cost(firm, model);
        good(cost >= 1 && cost <= 9999);
        act();
        now.costs.put(List.of(firm, model), cost);
        return old;
    }

    public int set(int what, int v) {
        there(what >= 0 && what <= 5);
        good(v >= 0 && v <= new int[] {2, 1, 1, 1, 99, 99}[what]);
        act();
        int old = now.told[what];
        now.told[what] = v;
        return old;
    }

    public boolean silent(int firm, boolean is) {
        firmIs(firm);
        act();
        boolean old = now.silent.remove((Integer) firm);
        if (is) {
            now.silent.add(firm);
        }
        return old;
    }

    public int undo() {
        if (before.isEmpty()) {
            return -1;
        }
        now = before.remove(before.size() - 1);
        return before.size();
    }

    // ---- worth

    private List<Sale> those(Predicate<Sale> which) {
        return now.sales.stream().filter(s -> !now.dropped.contains(s.number)).filter(which)
                .collect(Collectors.toList());
    }

    private static long many(List<Sale> sales) {
        return sales.stream().mapToLong(Sale::many).sum();
    }

    private long worthOfAll(List<Sale> sales) {
        return sales.stream().mapToLong(s -> 1000 * net(s) * s.many).sum();
    }

    private long average(List<Sale> sales) {
        return down(worthOfAll(sales), many(sales));
    }

    private List<Sale> exports(int firm) {
        return those(s -> s.firm == firm && s.market == 1);
    }

    public int base(int firm) {
        firmIs(firm);
        for (int market : new int[] {0, 2}) {
            List<Sale> there = those(s -> s.firm == firm && s.market == market);
            if (!there.isEmpty() && 20 * many(there) >= many(exports(firm))) {
                return market;
            }
        }
        return -1;
    }

    private boolean isBelow(Sale s) {
        return s.market == base(s.firm) && net(s) < cost(s.firm, s.model);
    }

    private List<Sale> inBase(int firm, int model) {
        return those(s -> s.firm == firm && s.model == model && s.market == base(firm));
    }

    private boolean isIn(Sale s) {
        return s.market == base(s.firm) && !(isBelow(s) && below(s.firm, s.model, 2) == 1);
    }

    public int below(int firm, int model, int what) {
        firmIs(firm);
        modelIs(model);
        there(what >= 0 && what <= 2);
        List<Sale> all = inBase(firm, model);
        List<Sale> low = all.stream().filter(this::isBelow).collect(Collectors.toList());
        return (int) (what == 0 ? many(all) : what == 1 ? many(low)
                : !low.isEmpty() && 5 * many(low) >= many(all) ? 1 : 0);
    }

    private List<Sale> ins(int firm, int model) {
        return inBase(firm, model).stream().filter(this::isIn).collect(Collectors.toList());
    }

    public int found(int firm, int model, int level, int what) {
        firmIs(firm);
        modelIs(model);
        good(level >= 0 && level <= 3);
        there(what >= 0 && what <= 2);
        int way = 3;
        int from = -1;
        if (!ins(firm, model).isEmpty()) {
            way = 1;
            from = model;
        } else {
            TreeMap<Integer, Integer> byLikeness = new TreeMap<>();
            for (int other = 0; other < now.models.size(); other++) {
                double apart = Math.abs(cost(firm, other) - cost(firm, model));
                if (other != model && !ins(firm, other).isEmpty() && apart * 5 <= cost(firm, model)) {
                    byLikeness.putIfAbsent(
                            Math.abs(now.models.get(other).likeness - now.models.get(model).likeness), other);
                }
            }
            if (!byLikeness.isEmpty()) {
                way = 2;
                from = byLikeness.firstEntry().getValue();
            }
        }
        int at = -1;
        if (way < 3) {
            for (int apart = 3; apart >= 0; apart--) {
                for (int other : new int[] {level + apart, level - apart}) {
                    if (ins(firm, from).stream().anyMatch(s -> s.level == other)) {
                        at = other;
                    }
                }
            }
        }
        return what == 0 ? way : what == 1 ? from : at;
    }

    public long worth(int firm, int model, int level, int month) {
        firmIs(firm);
        modelIs(model);
        good(level >= 0 && level <= 3 && month >= -1 && month <= 11);
        int way = found(firm, model, level, 0);
        int cost = cost(firm, model);
        if (way == 3) {
            return 1000 * (cost + down((long) cost * now.told[4], 100));
        }
        int from = found(firm, model, level, 1);
        int at = found(firm, model, level, 2);
        List<Sale> all = ins(firm, from).stream().filter(s -> s.level == at).collect(Collectors.toList());
        List<Sale> ofMonth = all.stream().filter(s -> s.month == month).collect(Collectors.toList());
        long w = average(ofMonth.isEmpty() ? all : ofMonth) + 1000L * now.told[5] * (level - at);
        if (way == 2) {
            w += 1000L * (cost - cost(firm, from));
        }
        return Math.max(0, w);
    }

    public int match(int sale) {
        Sale e = exportIs(sale);
        List<Sale> all = new ArrayList<>(ins(e.firm, e.model));
        all.sort((a, b) -> Arrays.compare(
                new int[] {Math.abs(a.level - e.level), Math.abs(a.month - e.month), Math.abs(a.many - e.many), a.number},
                new int[] {Math.abs(b.level - e.level), Math.abs(b.month - e.month), Math.abs(b.many - e.many), b.number}));
        return all.isEmpty() ? -1 : all.get(0).number;
    }

    // ---- margins

    private int month(Sale s) {
        return now.told[3] == 1 ? s.month : -1;
    }

    private long worthFor(Sale e, int method) {
        int match = match(e.number);
        if (method == 2 && match >= 0) {
            Sale m = now.sales.get(match);
            return 1000 * Math.max(0, net(m) + now.told[5] * (e.level - m.level));
        }
        return worth(e.firm, e.model, e.level, month(e));
    }

    public long difference(int sale, int method) {
        Sale e = exportIs(sale);
        good(method == 1 || method == 2);
        return (worthFor(e, method) - 1000 * net(e)) * e.many;
    }

    private List<List<Sale>> grouped(int firm) {
        Map<List<Integer>, List<Sale>> all = new LinkedHashMap<>();
        for (Sale e : exports(firm)) {
            all.computeIfAbsent(List.of(e.model, e.level, month(e)), x -> new ArrayList<>()).add(e);
        }
        return new ArrayList<>(all.values());
    }

    public int groups(int firm) {
        firmIs(firm);
        return grouped(firm).size();
    }

    public long group(int firm, int k, int what) {
        firmIs(firm);
        List<List<Sale>> all = grouped(firm);
        there(k >= 0 && k < all.size() && what >= 0 && what <= 6);
        List<Sale> g = all.get(k);
        Sale e = g.get(0);
        long worth = worth(firm, e.model, e.level, month(e));
        return new long[] {e.model, e.level, month(e), many(g), average(g), worth,
            (worth - average(g)) * many(g)}[what];
    }

    /** SUM with so much put to each NET, by the words of UNDERTAKING. */
    private long sumWith(int firm, int method, boolean zeroing, int more) {
        List<Long> differences = new ArrayList<>();
        if (method == 0) {
            for (List<Sale> g : grouped(firm)) {
                long all = 0;
                for (Sale e : g) {
                    all += 1000 * (net(e) + more) * e.many;
                }
                Sale e = g.get(0);
                differences.add((worth(firm, e.model, e.level, month(e)) - down(all, many(g))) * many(g));
            }
        } else {
            for (Sale e : exports(firm)) {
                differences.add((worthFor(e, method) - 1000 * (net(e) + more)) * e.many);
            }
        }
        return differences.stream().mapToLong(d -> zeroing && d < 0 ? 0 : d).sum();
    }

    public long sum(int firm, int method, boolean zeroing) {
        firmIs(firm);
        good(method >= 0 && method <= 2);
        return sumWith(firm, method, zeroing, 0);
    }

    public long value(int firm) {
        firmIs(firm);
        return worthOfAll(exports(firm));
    }

    private static int part(long sum, long value) {
        if (value == 0) {
            return sum == 0 ? 0 : 99999;
        }
        return (int) Math.min(99999, Math.max(0, down(10000 * sum, value)));
    }

    private int own(int firm, int method, boolean zeroing, int more) {
        return part(sumWith(firm, method, zeroing, more), value(firm) + 1000 * more * many(exports(firm)));
    }

    private int ownAsTold(int firm) {
        return own(firm, now.told[0], now.told[1] == 1, 0);
    }

    public int margin(int firm, int method, boolean zeroing) {
        firmIs(firm);
        good(method >= 0 && method <= 2);
        if (!now.silent.contains(firm)) {
            return own(firm, method, zeroing, 0);
        }
        int most = 0;
        for (int f = 0; f < now.firms.size(); f++) {
            most = Math.max(most, now.silent.contains(f) ? 0 : own(f, method, zeroing, 0));
        }
        return most;
    }

    // ---- duties

    public boolean negligible(int firm) {
        firmIs(firm);
        long all = many(those(s -> s.market == 1));
        Predicate<Integer> small = f -> !exports(f).isEmpty() && many(exports(f)) * 100 < 3 * all;
        long together = 0;
        for (int f = 0; f < now.firms.size(); f++) {
            together += small.test(f) ? many(exports(f)) : 0;
        }
        return small.test(firm) && !(together * 100 > 7 * all);
    }

    public int duty(int firm, int what) {
        firmIs(firm);
        there(what >= 0 && what <= 3);
        int margin = margin(firm, now.told[0], now.told[1] == 1);
        int rate = negligible(firm) || exports(firm).isEmpty() || margin < 200 ? 0 : margin;
        List<Sale> aimed = exports(firm).stream().filter(s -> now.models.get(s.model).target > 0)
                .collect(Collectors.toList());
        long hurt = aimed.stream().mapToLong(s -> 1000 * (now.models.get(s.model).target - net(s)) * s.many).sum();
        int injury = part(hurt, worthOfAll(aimed));
        int duty = now.told[2] == 1 && !aimed.isEmpty() && injury < rate ? injury : rate;
        return new int[] {margin, rate, injury, duty}[what];
    }

    public int others() {
        long rates = 0;
        long values = 0;
        for (int f = 0; f < now.firms.size(); f++) {
            if (!now.silent.contains(f) && duty(f, 1) > 0) {
                rates += duty(f, 1) * value(f);
                values += value(f);
            }
        }
        return values == 0 ? 0 : (int) down(rates, values);
    }

    public int method(int firm, int what) {
        firmIs(firm);
        there(what == 0 || what == 1);
        int[] m = new int[3];
        for (int k = 0; k < 3; k++) {
            m[k] = margin(firm, k, now.told[1] == 1) * (what == 0 ? 1 : -1);
        }
        return m[0] >= m[1] && m[0] >= m[2] ? 0 : m[1] >= m[2] ? 1 : 2;
    }

    public int undertaking(int firm) {
        firmIs(firm);
        if (exports(firm).isEmpty()) {
            throw new IllegalStateException();
        }
        // What does not change with the number is worked out once: else ten thousand rounds would take too long.
        List<long[]> units = new ArrayList<>();
        if (now.told[0] == 0) {
            for (List<Sale> g : grouped(firm)) {
                Sale e = g.get(0);
                units.add(new long[] {worth(firm, e.model, e.level, month(e)), worthOfAll(g), many(g)});
            }
        } else {
            for (Sale e : exports(firm)) {
                units.add(new long[] {worthFor(e, now.told[0]), worthOfAll(List.of(e)), e.many});
            }
        }
        for (int more = 0; more <= 9999; more++) {
            long sum = 0;
            long value = 0;
            for (long[] u : units) {
                long all = u[1] + 1000 * more * u[2];
                long difference = (u[0] - Math.floorDiv(all, u[2])) * u[2];
                sum += now.told[1] == 1 && difference < 0 ? 0 : difference;
                value += all;
            }
            if (part(sum, value) < 200) {
                return more;
            }
        }
        return -1;
    }

    public int picked(int firm) {
        firmIs(firm);
        int bits = 0;
        for (int month = 0; month < 12; month++) {
            int m = month;
            List<Sale> here = those(s -> s.firm == firm && s.market == 1 && s.month == m);
            List<Sale> rest = those(s -> s.firm == firm && s.market == 1 && s.month != m);
            if (!here.isEmpty() && !rest.isEmpty() && 100 * average(here) < 98 * average(rest)) {
                bits += 1 << month;
            }
        }
        return bits;
    }

    public long collected(int sale, boolean owed) {
        Sale e = exportIs(sale);
        return owed ? Math.max(0, difference(sale, now.told[0] == 2 ? 2 : 1))
                : down(duty(e.firm, 1) * net(e) * e.many, 10);
    }

    public long back(int firm) {
        firmIs(firm);
        return exports(firm).stream().mapToLong(e -> collected(e.number, false) - collected(e.number, true)).sum();
    }

    public int weight(int sale) {
        int firm = saleIs(sale).firm;
        int with = ownAsTold(firm);
        State kept = now;
        now = now.copy();
        now.dropped.add(sale);
        int without = ownAsTold(firm);
        now = kept;
        return without - with;
    }

    public int heaviest(int firm, boolean least) {
        firmIs(firm);
        int best = -1;
        for (Sale s : those(x -> x.firm == firm)) {
            if (best < 0 || (least ? weight(s.number) < weight(best) : weight(s.number) > weight(best))) {
                best = s.number;
            }
        }
        return best;
    }

    public int ranked(int k) {
        List<Integer> firms = new ArrayList<>();
        for (int f = 0; f < now.firms.size(); f++) {
            firms.add(f);
        }
        Map<Integer, Integer> duty = new HashMap<>();
        firms.forEach(f -> duty.put(f, duty(f, 3)));
        firms.sort((a, b) -> duty.get(b) - duty.get(a));
        return k >= 0 && k < firms.size() ? firms.get(k) : -1;
    }

    public int write(int firm) {
        firmIs(firm);
        int d = duty(firm, 3);
        written = now.firms.get(firm) + " " + String.format("%d.%02d%%", d / 100, d % 100)
                + (now.silent.contains(firm) ? " silent" : "") + (negligible(firm) ? " negligible" : "");
        return written.length();
    }

    public int octet(int k) {
        return k >= 0 && k < written.length() ? written.charAt(k) : -1;
    }

    public int count(int what) {
        int[] all = {now.models.size(), now.firms.size(), now.sales.size(), those(s -> true).size(), now.told[0],
            now.told[1], now.told[2], now.told[3], now.told[4], now.told[5], before.size(), written.length(),
            now.silent.size()};
        return what >= 0 && what < all.length ? all[what] : -1;
    }
}
