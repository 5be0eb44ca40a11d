import java.io.IOException;
import java.lang.reflect.InvocationTargetException;
import java.lang.reflect.Method;
import java.lang.reflect.Modifier;
import java.nio.file.Files;
import java.nio.file.Path;
import java.util.ArrayList;
import java.util.Arrays;
import java.util.Comparator;
import java.util.List;
import java.util.function.IntSupplier;

/** What the tests of boundary cases share. Each test is a static method without arguments that bears its words in a Says. */
final class Cases {
    static final int NONE = -1, UNKNOWN = -1000000001, OUTSIDE = -1000000002, NOT = -1000000003, FULL = -1000000004;
    static final int MIN = Integer.MIN_VALUE, MAX = Integer.MAX_VALUE;
    static final String EIGHT_YARDS = "yard 0;".repeat(8);
    static final String SEVEN_DEAD = "dead 5 5 5;".repeat(7);

    private static final Path DOCUMENT = Path.of("../shared/DOC.md");

    private static int wrong = 0;
    private static String words = "";

    private Cases() { }

    // ---- running

    /** Runs every test of a class, and looks whether each promise from the first to the last has one. */
    static void runAll(Class<?> tests, int firstPromise, int lastPromise) {
        List<Method> methods = new ArrayList<>(Arrays.asList(tests.getDeclaredMethods()));
        methods.removeIf(m -> m.getParameterCount() > 0 || !Modifier.isStatic(m.getModifiers()) || m.isSynthetic());
        methods.sort(Comparator.comparing(Method::getName));
        boolean[] tested = new boolean[34];
        int count = 0;
        for (Method method : methods) {
            Says says = method.getAnnotation(Says.class);
            if (says == null) {
                fail(method.getName() + " does not say what it tests");
                continue;
            }
            words = method.getName() + " (" + says.value() + ")";
            checkWords(says.value());
            run(method);
            count++;
            for (int p = firstPromise; p <= lastPromise; p++) tested[p] |= says.value().startsWith("Promise " + p + ":");
        }
        for (int p = firstPromise; p <= lastPromise; p++) if (!tested[p]) fail("no test of promise " + p);
        if (wrong != 0) System.exit(1);
        if (!Files.exists(DOCUMENT)) System.out.println("no document at " + DOCUMENT + ": the words of the tests were not looked up");
        System.out.println(count + " boundary cases of " + tests.getSimpleName() + " are as due");
    }

    private static void run(Method method) {
        try {
            method.invoke(null);
        } catch (InvocationTargetException e) {
            fail(words + ": threw " + e.getCause());
        } catch (IllegalAccessException e) {
            fail(words + ": cannot be run");
        }
    }

    /** The words must stand in the document, under their heading: a test of what nobody asked for is none. */
    private static void checkWords(String said) {
        if (!Files.exists(DOCUMENT)) return;
        int colon = said.indexOf(": ");
        if (colon < 0) {
            fail(words + ": no heading");
        } else if (!section(said.substring(0, colon)).contains(said.substring(colon + 2))) {
            fail(words + ": the document does not say so there");
        }
    }

    private static String section(String heading) {
        StringBuilder found = new StringBuilder();
        boolean inside = false;
        for (String line : documentLines()) {
            String head = line.startsWith("## ") ? line.substring(3) : line.startsWith("======== ") ? line.substring(9) : null;
            if (head != null) inside = head.startsWith(heading) && !head.startsWith(heading + "0") && !head.matches(heading + "[0-9].*");
            if (inside) found.append(line.trim()).append(' ');
        }
        return found.toString();
    }

    private static List<String> documentLines() {
        try {
            return Files.readAllLines(DOCUMENT);
        } catch (IOException e) {
            throw new IllegalStateException("no document at " + DOCUMENT, e);
        }
    }

    private static void fail(String what) {
        wrong++;
        System.out.println(what);
    }

    static void due(String call, long got, long want) {
        if (got != want) fail(words + ": " + call + " answered " + got + ", due is " + want);
    }

    // ---- objects to ask

    /** Eight bytes a call: an object is asked 512 times at most. */
    static void feed(LoftGraves x, String text) {
        for (int at = 0; at < text.length(); at += 8) {
            int n = Math.min(8, text.length() - at);
            long bytes = 0;
            for (int k = 0; k < n; k++) bytes = bytes << 8 | text.charAt(at + k);
            x.feed(n, bytes);
        }
    }

    static LoftGraves told(String text) {
        LoftGraves x = new LoftGraves();
        int answer = parish(x, text);
        if (answer < 0) fail(words + ": the text of the test has a fault: " + text);
        return x;
    }

    static int parish(LoftGraves x, String text) {
        feed(x, text);
        return x.parish();
    }

    static int custom(LoftGraves x, String text) {
        feed(x, text);
        return x.custom();
    }

    static LoftGraves ruled(String parish, String custom) {
        LoftGraves x = told(parish);
        if (custom(x, custom) < 0) fail(words + ": the custom of the test has a fault: " + custom);
        return x;
    }

    static void inOrder(LoftGraves x, int... want) {
        for (int i = 0; i < want.length; i++) due("order(" + i + ")", x.order(i), want[i]);
        due("order behind the last", x.order(want.length), NONE);
    }

    static void days(LoftGraves x, int count, int heat) {
        for (int k = 0; k < count; k++) x.day(heat);
    }

    /** Gifts in steps that are all allowed. */
    static void give(LoftGraves x, int d, int count) {
        for (int left = count; left > 0; left -= 999) x.gift(d, Math.min(999, left));
    }

    static int seedOf(LoftGraves x) {
        int was = x.seed(0);
        x.seed(was);
        return was;
    }

    // ---- THE SEED, counted here once more

    static int next(int seed) {
        return (int) ((seed * 1103515245L + 12345L) % (1L << 31));
    }

    static int next(int seed, int draws) {
        int then = seed;
        for (int k = 0; k < draws; k++) then = next(then);
        return then;
    }

    /** The DRAW of n behind which THE SEED is this. */
    static int drawn(int seed, int n) {
        return seed / 65536 % n;
    }

    /** The least seed from which the first DRAW, of 12, and the second, of 10, are these. */
    static int seedFor(int ofTwelve, int ofTen) {
        int seed = 0;
        while (drawn(next(seed), 12) != ofTwelve || drawn(next(seed, 2), 10) != ofTen) seed++;
        return seed;
    }

    /** The least seed from which the first two DRAWS of 10 are these. */
    static int seedForRats(int first, int second) {
        int seed = 0;
        while (drawn(next(seed), 10) != first || drawn(next(seed, 2), 10) != second) seed++;
        return seed;
    }

    // ---- refusals

    /** A refused call: its answer, and that nothing that can be asked is otherwise. */
    static void refused(LoftGraves x, int want, String call, IntSupplier ask) {
        List<Integer> before = all(x);
        due(call, ask.getAsInt(), want);
        alike("behind " + call, before, all(x));
    }

    /** A call that only asks: its answer, and that nothing that can be asked is otherwise. */
    static void asked(LoftGraves x, int want, String call, IntSupplier ask) {
        refused(x, want, call, ask);
    }

    static void alike(String when, List<Integer> before, List<Integer> then) {
        if (!before.equals(then)) fail(words + ": " + when + " it is " + then + ", due is " + before);
    }

    static List<Integer> all(LoftGraves x) {
        List<Integer> list = new ArrayList<>();
        for (int what = 0; what < 10; what++) list.add(x.told(what));
        int yards = list.get(0);
        int dead = list.get(1);
        for (int i = 0; i < yards; i++) for (int what = 0; what < 2; what++) list.add(x.yard(i, what));
        for (int d = 0; d < dead; d++) for (int what = 0; what < 9; what++) list.add(x.dead(d, what));
        for (int i = 0; i < dead; i++) list.add(x.order(i));
        list.add(x.fault());
        list.add(x.judge());
        list.add(seedOf(x));
        return list;
    }

    // ---- faults

    /** A text with a FAULT: the answer, the place, and that all else is as it was. */
    static void parishFault(String text, int number, int place) {
        LoftGraves x = told("sun 3 1;yard 7;dead 8 9 1;");
        x.gift(0, 2);
        List<Integer> before = all(x);
        due("parish of '" + text + "'", parish(x, text), -10 - number);
        due("fault of '" + text + "'", x.fault(), place);
        alikeButForFault(x, before);
    }

    static void customFault(String text, int number, int place) {
        LoftGraves x = ruled("yard 7;dead 8 9 1;dead 8 9 0;dead 9 1 1;", "kin;rank;");
        List<Integer> before = all(x);
        due("custom of '" + text + "'", custom(x, text), -10 - number);
        due("fault of '" + text + "'", x.fault(), place);
        alikeButForFault(x, before);
    }

    private static void alikeButForFault(LoftGraves x, List<Integer> before) {
        List<Integer> then = all(x);
        int fault = then.size() - 3;
        then.set(fault, before.get(fault));
        alike("behind the fault", before, then);
    }

    static void parishFine(String text, int dead) {
        LoftGraves x = told("yard 7;");
        due("parish of '" + text + "'", parish(x, text), dead);
        due("fault of '" + text + "'", x.fault(), NONE);
    }

    static void customFine(String text, int clauses) {
        LoftGraves x = new LoftGraves();
        due("custom of '" + text + "'", custom(x, text), clauses);
        due("fault of '" + text + "'", x.fault(), NONE);
        due("clauses of '" + text + "'", x.told(9), clauses);
    }
}
