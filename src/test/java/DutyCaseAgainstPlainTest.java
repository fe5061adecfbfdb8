import java.lang.reflect.InvocationTargetException;
import java.lang.reflect.Method;
import java.util.ArrayList;
import java.util.List;
import java.util.Random;

/** Runs of calls by chance, from fixed seeds, on DutyCase and on PlainCase: every answer must be the same. */
public final class DutyCaseAgainstPlainTest {
    private static final int RUNS = 120;
    private static final int CALLS = 90;

    private final Random chance;
    private final DutyCase mine = new DutyCase();
    private final PlainCase plain = new PlainCase();
    private final List<String> log = new ArrayList<>();
    private int models;
    private int firms;
    private boolean wrong;

    private DutyCaseAgainstPlainTest(long seed) {
        chance = new Random(seed);
    }

    public static void main(String[] args) {
        int wrong = 0;
        int runs = args.length > 0 ? Integer.parseInt(args[0]) : RUNS;
        int first = args.length > 1 ? Integer.parseInt(args[1]) : 0;
        for (int seed = first; seed < first + runs && wrong < 3; seed++) {
            DutyCaseAgainstPlainTest run = new DutyCaseAgainstPlainTest(seed);
            run.go();
            if (run.wrong) {
                wrong++;
                System.out.println("seed " + seed + ":");
                run.log.forEach(System.out::println);
            }
        }
        System.out.println(wrong == 0 ? runs + " runs answered alike" : "runs answered otherwise: " + wrong);
        if (wrong != 0) {
            System.exit(1);
        }
    }

    private void go() {
        for (int texts = 0; texts < 2 && !wrong; texts++) {
            tell(text());
            models = mine.count(0);
            firms = mine.count(1);
            for (int k = chance.nextInt(30); k > 0 && !wrong; k--) {
                call("put", pick(3), pick(Math.max(1, firms)), pick(Math.max(1, models)), pick(4), pick(12), many(), price());
            }
            for (int k = 0; k < CALLS && !wrong; k++) {
                ask();
            }
        }
    }

    // ---- texts

    private String text() {
        int kind = chance.nextInt(10);
        String text = goodText();
        if (kind < 3) {
            return spoiled(text);
        }
        return text;
    }

    private String goodText() {
        StringBuilder b = new StringBuilder();
        int m = 1 + chance.nextInt(6);
        int f = 1 + chance.nextInt(4);
        int scale = chance.nextBoolean() ? 60 : 1500;
        for (int i = 0; i < m; i++) {
            b.append("model ").append((char) ('a' + i)).append(' ').append(scale + chance.nextInt(scale / 3))
                    .append(' ').append(chance.nextInt(8)).append(' ')
                    .append(chance.nextInt(3) == 0 ? 0 : scale + chance.nextInt(scale)).append(';');
        }
        for (int i = 0; i < f; i++) {
            b.append("firm ").append((char) ('u' + i)).append(';');
        }
        List<String> lines = new ArrayList<>();
        if (chance.nextBoolean()) {
            lines.add("step " + chance.nextInt(12));
        }
        if (chance.nextBoolean()) {
            lines.add("profit " + chance.nextInt(100));
        }
        if (chance.nextInt(4) == 0) {
            lines.add("silent " + (char) ('u' + chance.nextInt(f)));
        }
        if (chance.nextInt(3) == 0) {
            lines.add("cost " + (char) ('u' + chance.nextInt(f)) + " " + (char) ('a' + chance.nextInt(m)) + " "
                    + (scale + chance.nextInt(scale / 3)));
        }
        for (String market : PlainCase.MARKETS) {
            if (chance.nextInt(3) == 0) {
                lines.add("adjust " + market + " " + (chance.nextInt(4) == 0 ? sum(3) : smallSum()));
            }
        }
        for (int i = chance.nextInt(8); i > 0; i--) {
            lines.add("sell " + PlainCase.MARKETS.get(chance.nextInt(3)) + " " + (char) ('u' + chance.nextInt(f)) + " "
                    + (char) ('a' + chance.nextInt(m)) + " " + chance.nextInt(4) + " " + chance.nextInt(12) + " "
                    + (1 + chance.nextInt(30)) + " " + (scale + chance.nextInt(scale)));
        }
        java.util.Collections.shuffle(lines, chance);
        for (String line : lines) {
            if (b.length() + line.length() < 400) {
                b.append(line).append(';');
            }
        }
        return b.toString();
    }

    private String smallSum() {
        return new String[] {"l*2+q/10", "p/20", "(p-c)/7*2-l", "m-3", "q/7*(l-m)", "p/(l-1)", "c/9"}[chance.nextInt(7)];
    }

    private String sum(int deep) {
        String s = term(deep);
        for (int i = chance.nextInt(3); i > 0; i--) {
            s += (chance.nextBoolean() ? "+" : " - ") + term(deep);
        }
        return s;
    }

    private String term(int deep) {
        String s = atom(deep);
        for (int i = chance.nextInt(3); i > 0; i--) {
            s += (chance.nextBoolean() ? "*" : "/") + atom(deep);
        }
        return s;
    }

    private String atom(int deep) {
        if (deep > 0 && chance.nextInt(3) == 0) {
            return "(" + sum(deep - 1) + ")";
        }
        return chance.nextBoolean() ? String.valueOf("qplmc".charAt(chance.nextInt(5)))
                : String.valueOf(chance.nextInt(chance.nextBoolean() ? 10 : 10000));
    }

    private String spoiled(String text) {
        StringBuilder b = new StringBuilder(text);
        String signs = "abqplmcxyz0123456789;;  \n\t()+-*/A\u0000\u00e9\r";
        for (int i = 1 + chance.nextInt(2); i > 0; i--) {
            int at = chance.nextInt(b.length());
            switch (chance.nextInt(5)) {
                case 0:
                    b.setCharAt(at, signs.charAt(chance.nextInt(signs.length())));
                    break;
                case 1:
                    b.insert(at, signs.charAt(chance.nextInt(signs.length())));
                    break;
                case 2:
                    b.deleteCharAt(at);
                    break;
                case 3:
                    b.insert(at, new String[] {"((((((1))))))", "(((((((1)))))))", "firm ", "model z 1 1 1;", " home ",
                        "firm fff;", "00001", "sell", "q", ";"}[chance.nextInt(10)]);
                    break;
                default:
                    b.setLength(at + 1);
                    break;
            }
        }
        if (b.length() > 400) {
            b.setLength(400);
        }
        return b.toString();
    }

    private void tell(String text) {
        log.add("text: " + text);
        int[] n = new int[5];
        for (int at = 0; at < text.length(); at += 20) {
            for (int k = 0; k < 5; k++) {
                n[k] = 0;
                for (int j = 0; j < 4; j++) {
                    int place = at + 4 * k + j;
                    n[k] = n[k] << 8 | (place < text.length() ? text.charAt(place) : 0);
                }
            }
            call("feed", n[0], n[1], n[2], n[3], n[4]);
        }
        call("end", text.length());
        call("read");
        call("fault");
    }

    // ---- calls

    /** Mostly a number that is there; now and then one at or behind an edge. */
    private int pick(int size) {
        int kind = chance.nextInt(40);
        return kind == 0 ? -1 : kind == 1 ? size : kind == 2 ? Integer.MIN_VALUE : kind == 3 ? Integer.MAX_VALUE
                : chance.nextInt(Math.max(1, size));
    }

    private int many() {
        return chance.nextInt(30) == 0 ? new int[] {0, 1, 999, 1000}[chance.nextInt(4)]
                : 1 + chance.nextInt(chance.nextBoolean() ? 10 : 300);
    }

    private int price() {
        return chance.nextInt(30) == 0 ? new int[] {0, 1, 9999, 10000}[chance.nextInt(4)]
                : chance.nextBoolean() ? 50 + chance.nextInt(60) : 1000 + chance.nextInt(2000);
    }

    private void ask() {
        int f = pick(firms);
        int m = pick(models);
        int s = pick(mine.count(2));
        boolean b = chance.nextBoolean();
        switch (chance.nextInt(40)) {
            case 0: call("name", b, b ? f : m, pick(3)); break;
            case 1: call("model", m, pick(3)); break;
            case 2: call("cost", f, m); break;
            case 3: case 4: call("sale", s, pick(11)); break;
            case 5: call("put", pick(3), f, m, pick(4), pick(12), many(), price()); break;
            case 6: call("drop", s); break;
            case 7: call("price", s, price()); break;
            case 8: call("costs", f, m, price()); break;
            case 9: call("set", pick(6), pick(chance.nextBoolean() ? 3 : 100)); break;
            case 10: call("silent", f, b); break;
            case 11: call("undo"); break;
            case 12: call("base", f); break;
            case 13: call("below", f, m, pick(3)); break;
            case 14: case 15: call("worth", f, m, pick(4), pick(13) - 1); break;
            case 16: call("found", f, m, pick(4), pick(3)); break;
            case 17: call("match", s); break;
            case 18: call("difference", s, pick(3)); break;
            case 19: call("groups", f); break;
            case 20: case 21: call("group", f, pick(5), pick(7)); break;
            case 22: call("sum", f, pick(3), b); break;
            case 23: call("value", f); break;
            case 24: call("margin", f, pick(3), b); break;
            case 25: call("negligible", f); break;
            case 26: case 27: call("duty", f, pick(4)); break;
            case 28: call("others"); break;
            case 29: call("method", f, pick(2)); break;
            case 30: call("undertaking", f); break;
            case 31: call("picked", f); break;
            case 32: call("collected", s, b); break;
            case 33: call("back", f); break;
            case 34: call("weight", s); break;
            case 35: call("heaviest", f, b); break;
            case 36: call("ranked", pick(4)); break;
            case 37: call("write", f); break;
            case 38: call("octet", pick(20)); break;
            default: call("count", pick(13)); break;
        }
    }

    private void call(String name, Object... args) {
        String a = answer(mine, name, args);
        String b = answer(plain, name, args);
        log.add(name + java.util.Arrays.toString(args) + " " + a);
        if (!a.equals(b)) {
            wrong = true;
            log.add("   due is " + b);
        }
    }

    private static String answer(Object object, String name, Object[] args) {
        try {
            for (Method m : object.getClass().getMethods()) {
                if (m.getName().equals(name) && m.getDeclaringClass() == object.getClass()) {
                    return String.valueOf(m.invoke(object, args));
                }
            }
            return "no such method";
        } catch (InvocationTargetException e) {
            return "throws." + e.getCause().getClass().getSimpleName();
        } catch (IllegalAccessException e) {
            return "no access";
        }
    }
}
