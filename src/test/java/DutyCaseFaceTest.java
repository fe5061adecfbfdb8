import java.io.IOException;
import java.lang.management.ManagementFactory;
import java.lang.reflect.Constructor;
import java.lang.reflect.Field;
import java.lang.reflect.InvocationTargetException;
import java.lang.reflect.Method;
import java.lang.reflect.Modifier;
import java.nio.file.Files;
import java.nio.file.Path;
import java.util.Arrays;
import java.util.List;
import java.util.NoSuchElementException;
import java.util.Set;
import java.util.TreeSet;
import java.util.regex.Matcher;
import java.util.regex.Pattern;
import java.util.stream.Collectors;

/** The face is the document's and no more; no argument makes the machine throw; calls make no objects. */
public final class DutyCaseFaceTest {
    private static final int[] NUMBERS = {Integer.MIN_VALUE, -2, -1, 0, 1, 2, 3, 4, 5, 6, 7, 10, 11, 12, 39, 40, 41, 99,
        100, 999, 1000, 9999, 10000, Integer.MAX_VALUE};
    private static final String FULL = "model a 100 5 150;model b 110 7 0;firm x;firm y;step 3;adjust export p/9-l;"
            + "sell home x a 1 2 10 120;sell home x b 3 2 30 140;sell third y a 1 5 10 130;"
            + "sell export x a 2 2 10 100;sell export x b 2 3 5 90;sell export y b 0 0 5 150;";

    private final Check check = new Check();

    public static void main(String[] args) throws IOException, ReflectiveOperationException {
        DutyCaseFaceTest t = new DutyCaseFaceTest();
        t.faceIsTheDocuments();
        t.sourceKeepsToTheLanguage();
        t.machineNeverThrows(new DutyCase());
        t.machineNeverThrows(Check.told(FULL));
        t.machineNeverThrows(filled());
        t.fullTapes();
        t.callsMakeNoObjects();
        t.check.finish();
    }

    private static DutyCase filled() {
        DutyCase x = Check.told(FULL);
        while (x.count(2) < 40) {
            int n = x.count(2);
            x.put(n % 3, n % 2, n % 2, n % 4, n % 12, 999 - n, 9999 - n);
        }
        return x;
    }

    // ---- the face

    private void same(String what, Set<String> got, Set<String> want) {
        if (!got.equals(want)) {
            System.out.println(what + ": " + got + "\n due: " + want);
        }
        check.due(what, got.equals(want), true);
    }

    private void faceIsTheDocuments() throws IOException {
        String document = Files.readString(Path.of("../shared/DOC.md"));
        String face = document.substring(document.indexOf("```java"), document.indexOf("## Terms"));
        Set<String> due = new TreeSet<>();
        Matcher m = Pattern.compile("public (\\w+ )?(\\w+)\\((.*?)\\)(?: throws (.*?))?;").matcher(face);
        while (m.find()) {
            String kinds = Arrays.stream(m.group(3).split(", *")).map(p -> p.split(" ")[0])
                    .collect(Collectors.joining(","));
            due.add((m.group(1) == null ? "" : m.group(1)) + m.group(2) + "(" + kinds + ")"
                    + (m.group(4) == null ? "" : m.group(4).replace(" ", "")));
        }
        Set<String> got = new TreeSet<>();
        for (Method method : DutyCase.class.getDeclaredMethods()) {
            if (!Modifier.isPrivate(method.getModifiers())) {
                got.add(method.getReturnType() + " " + method.getName() + "(" + kinds(method.getParameterTypes()) + ")"
                        + kinds(method.getExceptionTypes()));
                check.due(method + " is public alone", method.getModifiers(), Modifier.PUBLIC);
            }
        }
        for (Constructor<?> maker : DutyCase.class.getDeclaredConstructors()) {
            got.add("DutyCase(" + kinds(maker.getParameterTypes()) + ")");
        }
        check.due("methods in the document", due.size(), 41);
        same("the face", got, due);
        Set<String> fields = Arrays.stream(DutyCase.class.getDeclaredFields())
                .filter(f -> !Modifier.isPrivate(f.getModifiers())).map(Field::toString)
                .collect(Collectors.toCollection(TreeSet::new));
        same("constants", fields, Set.of("public static final int DutyCase.NONE"));
        check.due("the class is public and final", DutyCase.class.getModifiers(), Modifier.PUBLIC | Modifier.FINAL);
    }

    private static String kinds(Class<?>[] kinds) {
        return Arrays.stream(kinds).map(Class::getSimpleName).collect(Collectors.joining(","));
    }

    private void sourceKeepsToTheLanguage() throws IOException {
        String source = Files.readString(Path.of("src/main/java/DutyCase.java"));
        for (String word : List.of("catch", "try {", "finally", "->", "::", "Exact(", "static {", "synchronized", "assert ",
                "instanceof", "lambda", "import java.util.*", "package ", "System.", "Random", "double", "float")) {
            check.due("the source has " + word, source.contains(word), false);
        }
        check.due("one import", source.split("\nimport |^import ").length - 1, 1);
        check.due("signs below 128", source.chars().allMatch(c -> c < 128), true);
        Set<String> faces = Arrays.stream(DutyCase.class.getDeclaredMethods())
                .filter(m -> Modifier.isPublic(m.getModifiers())).map(Method::getName).collect(Collectors.toSet());
        for (Class<?> inner : DutyCase.class.getDeclaredClasses()) {
            check.due(inner + " is static", Modifier.isStatic(inner.getModifiers()), true);
            check.due(inner + " has few fields", instanceFields(inner) <= 20, true);
            for (Method m : inner.getDeclaredMethods()) {
                check.due(m + " bears a name of its own", faces.contains(m.getName()), false);
                check.due(m + " takes seven at most", m.getParameterCount() <= 7, true);
            }
        }
        for (Method m : DutyCase.class.getDeclaredMethods()) {
            if (Modifier.isPrivate(m.getModifiers())) {
                check.due(m + " bears a name of its own", faces.contains(m.getName()), false);
            }
        }
        check.due("classes", DutyCase.class.getDeclaredClasses().length <= 11, true);
    }

    private static int instanceFields(Class<?> kind) {
        int all = 0;
        for (Field f : kind.getDeclaredFields()) {
            all += Modifier.isStatic(f.getModifiers()) ? 0 : 1;
        }
        return all;
    }

    // ---- any arguments

    private void machineNeverThrows(DutyCase x) throws ReflectiveOperationException {
        java.util.Random chance = new java.util.Random(7);
        for (int round = 0; round < 300; round++) {
            for (Method m : DutyCase.class.getDeclaredMethods()) {
                // A text of chance bytes would soon leave nothing in place: the runs against PlainCase have texts.
                if (Modifier.isPublic(m.getModifiers()) && !m.getName().equals("read")) {
                    callWithEdges(x, m, chance);
                }
            }
        }
    }

    private void callWithEdges(DutyCase x, Method m, java.util.Random chance) throws ReflectiveOperationException {
        Class<?>[] kinds = m.getParameterTypes();
        Object[] args = new Object[kinds.length];
        for (int k = 0; k < kinds.length; k++) {
            if (kinds[k] == boolean.class) {
                args[k] = chance.nextBoolean();
            } else {
                args[k] = NUMBERS[chance.nextInt(NUMBERS.length)];
            }
        }
        try {
            m.invoke(x, args);
        } catch (InvocationTargetException e) {
            Class<?> kind = e.getCause().getClass();
            boolean isOurs = Set.of(IndexOutOfBoundsException.class, IllegalArgumentException.class,
                    NoSuchElementException.class, IllegalStateException.class).contains(kind)
                    && Arrays.asList(m.getExceptionTypes()).contains(kind);
            if (!isOurs) {
                check.due(m.getName() + Arrays.toString(args) + " threw " + kind, true, false);
            }
        }
    }

    /** Texts of all 400 bytes, of one sign each, and of the dearest sums. */
    private void fullTapes() {
        for (int sign = 0; sign < 256; sign++) {
            DutyCase x = new DutyCase();
            Check.end(x, String.valueOf((char) sign).repeat(400));
            boolean isBlank = sign == 9 || sign == 10 || sign == 32;
            int fault = isBlank ? DutyCase.NONE : 0;
            try {
                x.read();
            } catch (IllegalArgumentException e) {
                check.due("fault of sign " + sign, x.fault(), fault);
                continue;
            }
            check.due("fault of sign " + sign, x.fault(), DutyCase.NONE);
            check.due("sign is a blank " + sign, isBlank, true);
        }
        String head = "firm x;model a 9 0 0;sell home x a 3 9 7 5;adjust home 1";
        DutyCase x = Check.told(head + "+q".repeat((399 - head.length()) / 2) + ";");
        check.due("a long sum", x.sale(0, 7), 1 + 7 * ((399 - head.length()) / 2));
        String deep = "1+2*(".repeat(6) + "3" + ")".repeat(6);
        DutyCase y = Check.told("firm x;model a 9 0 0;sell home x a 3 9 7 5;adjust home " + deep + "-(q)".repeat(3) + ";");
        check.due("a deep sum", y.sale(0, 7), 255 - 3 * 7);
    }

    // ---- room

    private void callsMakeNoObjects() {
        DutyCase x = filled();
        com.sun.management.ThreadMXBean bean = (com.sun.management.ThreadMXBean) ManagementFactory.getThreadMXBean();
        long thread = Thread.currentThread().getId();
        useAll(x);
        bean.getThreadAllocatedBytes(thread);
        long before = bean.getThreadAllocatedBytes(thread);
        for (int round = 0; round < 20; round++) {
            useAll(x);
        }
        long made = bean.getThreadAllocatedBytes(thread) - before;
        check.due("bytes made by 20 rounds of calls: " + made, made < 4096, true);
    }

    private static void useAll(DutyCase x) {
        for (int method = 0; method < 3; method++) {
            x.set(0, method);
            x.set(3, method & 1);
            x.heaviest(0, true);
            x.weight(3);
            x.others();
            x.ranked(1);
            x.undertaking(0);
            x.picked(0);
            x.back(0);
            x.write(1);
            x.method(0, 0);
            x.group(0, 0, 6);
            x.costs(0, 0, 100 + method);
            x.price(3, 100 + method);
            x.drop(7);
            x.undo();
            x.silent(1, method == 1);
        }
        x.feed(0x6669726d, 0x20780a3b, 0, 0, 0);
        x.end(0);
    }
}
