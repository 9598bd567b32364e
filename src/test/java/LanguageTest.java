import java.io.IOException;
import java.lang.management.ManagementFactory;
import java.nio.file.Files;
import java.nio.file.Path;
import java.util.regex.Matcher;
import java.util.regex.Pattern;

/** Rules of LANGUAGE.md that a glance at the text, or a count of the bytes that calls make, can hold. */
public final class LanguageTest {
    private static final String[] NOT_THERE = {
        "import ", "package ", "->", "::", "Exact\\(", "\\bfinally\\b", "\\bsynchronized\\b", "\\bassert\\b",
        "\\bcatch\\b", "\\bSystem\\.(?!arraycopy)", "\\bThread\\b", "\\bRandom\\b", "\\bObject\\b", "\" \\+", "\\+ \"",
        "static \\{", "[^\\x00-\\x7f]", "while \\(true\\)", "for \\(;;\\)"
    };

    public static void main(String[] args) throws IOException {
        Tester t = new Tester();
        String source = Files.readString(Path.of("src/main/java/RoomClimate.java"));
        for (String pattern : NOT_THERE) {
            t.due("the text has " + pattern, Pattern.compile(pattern).matcher(source).find(), false);
        }
        Matcher thrown = Pattern.compile("throw (?!new (IllegalState|IllegalArgument|IndexOutOfBounds)Exception\\(\")")
            .matcher(source);
        t.due("the text throws something else", thrown.find(), false);
        t.due("static fields are final", Pattern.compile("static (?!final)[a-z\\[\\]]+ \\w+( =|;)").matcher(source).find(),
            false);
        callsMakeNoObjects(t);
        t.end();
    }

    private static void callsMakeNoObjects(Tester t) {
        var threads = (com.sun.management.ThreadMXBean) ManagementFactory.getThreadMXBean();
        long self = Thread.currentThread().getId();
        useAll(new RoomClimate());
        RoomClimate x = new RoomClimate();
        long before = threads.getThreadAllocatedBytes(self);
        useAll(x);
        long made = threads.getThreadAllocatedBytes(self) - before;
        t.due("calls of one object made " + made + " bytes, few are", made < 1000, true);
    }

    private static long useAll(RoomClimate x) {
        long sum = 0;
        for (int k = 0; k < 5; k++) {
            sum += x.wall(20 * k, 10 + k) + x.row(1000 * k, 10 * k) + x.goods(100);
        }
        for (int k = 0; k < 4; k++) {
            x.machine(k, 10000, 20000, 100);
            sum += x.risk(k, k, k) + x.rule(k, 100, 1) + x.points(k) + x.alarm(k, -1);
        }
        for (int h = 0; h < 150; h++) {
            sum += x.hour(100 * h, 100 * h, 5);
            x.sensor(h, h);
            x.check(h, h);
            sum += x.corrected(h) + x.silent(h) + x.book(4, 0) + x.layer(0) + x.plan(24, 0, 0);
        }
        return sum + x.degrees() + x.damp() + x.held() + x.count(4) + (x.on(0) ? 1 : 0) + (x.dew(1) ? 1 : 0);
    }
}
