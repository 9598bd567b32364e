import java.io.IOException;
import java.lang.management.ManagementFactory;
import java.lang.reflect.InvocationTargetException;
import java.lang.reflect.Method;
import java.lang.reflect.Modifier;
import java.nio.file.Files;
import java.nio.file.Path;
import java.util.ArrayList;
import java.util.Arrays;
import java.util.Comparator;
import java.util.List;
import java.util.Random;
import java.util.regex.Matcher;
import java.util.regex.Pattern;

/** Rules of LANGUAGE.md that a glance at the text, or a count of the bytes that calls make, can hold. */
public final class LanguageTest {
    private static final String[] NOT_THERE = {
        "import ", "package ", "->", "::", "Exact\\(", "\\bfinally\\b", "\\bsynchronized\\b", "\\bassert\\b",
        "\\bcatch\\b", "\\bSystem\\.(?!arraycopy)", "\\bThread\\b", "\\bRandom\\b", "\\bObject\\b", "\" \\+", "\\+ \"",
        "static \\{", "[^\\x00-\\x7f]", "while \\(true\\)", "for \\(;;\\)"
    };

    private static final int[] NUMBERS = {
        Integer.MIN_VALUE, Integer.MIN_VALUE + 1, -100001, -60001, -60000, -2, -1, 0, 1, 2, 3, 4, 5, 6, 24, 99, 100,
        299, 300, 1000, 10000, 20000, 60000, 100000, 100001, Integer.MAX_VALUE - 1, Integer.MAX_VALUE
    };

    public static void main(String[] args) throws IOException, IllegalAccessException {
        Tester t = new Tester();
        String source = Files.readString(Path.of("src/main/java/RoomClimate.java"));
        for (String pattern : NOT_THERE) {
            t.due("the text has " + pattern, Pattern.compile(pattern).matcher(source).find(), false);
        }
        Matcher thrown = Pattern.compile("throw (?!new (IllegalState|IllegalArgument|IndexOutOfBounds)Exception\\(\")")
            .matcher(source);
        t.due("the text throws something else", thrown.find(), false);
        Matcher notFinal = Pattern.compile("static (?!final)[a-z\\[\\]]+ \\w+( =|;)").matcher(source);
        t.due("the text has a static field that is not final", notFinal.find(), false);
        sizesStaySmall(t);
        callsMakeNoObjects(t);
        callsThrowOnlyWhatTheyTell(t);
        t.end();
    }

    private static void sizesStaySmall(Tester t) {
        List<Class<?>> classes = new ArrayList<>(List.of(RoomClimate.class.getDeclaredClasses()));
        classes.add(RoomClimate.class);
        t.due("at most twelve classes, not " + classes.size(), classes.size() <= 12, true);
        for (Class<?> one : classes) {
            long fields = Arrays.stream(one.getDeclaredFields()).filter(f -> !Modifier.isStatic(f.getModifiers())).count();
            t.due("at most twenty fields of " + one + ", not " + fields, fields <= 20, true);
            for (Method method : one.getDeclaredMethods()) {
                t.due("at most seven parameters of " + method, method.getParameterCount() <= 7, true);
            }
        }
    }

    private static void callsMakeNoObjects(Tester t) {
        var threads = (com.sun.management.ThreadMXBean) ManagementFactory.getThreadMXBean();
        long self = Thread.currentThread().getId();
        useAll(new RoomClimate());
        RoomClimate x = new RoomClimate();
        long before = threads.getThreadAllocatedBytes(self);
        useAll(x);
        long made = threads.getThreadAllocatedBytes(self) - before;
        t.due("calls of one object made " + made + " bytes, few are", made < 1000, true);
    }

    /** Rule 7, for far longer lives than the document speaks of: no answer is asked for, but none may break. */
    private static void callsThrowOnlyWhatTheyTell(Tester t) throws IllegalAccessException {
        Method[] methods = Arrays.stream(RoomClimate.class.getDeclaredMethods())
            .filter(m -> Modifier.isPublic(m.getModifiers()))
            .sorted(Comparator.comparing(Method::getName))
            .toArray(Method[]::new);
        for (int life = 0; life < 10; life++) {
            Random random = new Random(life);
            RoomClimate x = new RoomClimate();
            for (int call = 0; call < 20000; call++) {
                Method method = methods[random.nextInt(methods.length)];
                t.due("life " + life + ", call " + call + ": " + method.getName() + " throws what it does not tell",
                    thrownUntold(method, x, random), null);
            }
        }
    }

    /** What the call throws though the method does not tell so, or null. */
    private static Throwable thrownUntold(Method method, RoomClimate x, Random random) throws IllegalAccessException {
        Object[] arguments = new Object[method.getParameterCount()];
        for (int k = 0; k < arguments.length; k++) {
            arguments[k] = random.nextInt(4) == 0 ? NUMBERS[random.nextInt(NUMBERS.length)] : random.nextInt(120);
        }
        try {
            method.invoke(x, arguments);
            return null;
        } catch (InvocationTargetException e) {
            boolean told = List.of(method.getExceptionTypes()).contains(e.getCause().getClass());
            return told ? null : e.getCause();
        }
    }

    private static long useAll(RoomClimate x) {
        long sum = 0;
        for (int k = 0; k < 5; k++) {
            sum += x.wall(20 * k, 10 + k) + x.row(1000 * k, 10 * k) + x.goods(100);
        }
        for (int k = 0; k < 4; k++) {
            x.machine(k, 10000, 20000, 100);
            sum += x.risk(k, k, k) + x.rule(k, 100, 1) + x.points(k) + x.alarm(k, -1);
        }
        for (int h = 0; h < 55; h++) {
            sum += x.hour(100 * h, 100 * h, 5);
            x.sensor(h, h);
            x.check(h, h);
            sum += x.corrected(h) + x.silent(h) + x.book(4, 0) + x.layer(0) + x.plan(24, 0, 0);
        }
        return sum + x.degrees() + x.damp() + x.held() + x.count(4) + (x.on(0) ? 1 : 0) + (x.dew(1) ? 1 : 0);
    }
}
