import java.io.IOException;
import java.lang.management.ManagementFactory;
import java.lang.reflect.Constructor;
import java.lang.reflect.Field;
import java.lang.reflect.Method;
import java.lang.reflect.Modifier;
import java.nio.file.Files;
import java.nio.file.Path;
import java.util.Arrays;
import java.util.List;
import java.util.Set;
import java.util.TreeSet;
import java.util.regex.Matcher;
import java.util.regex.Pattern;

/** What of LANGUAGE.md, and of the document's public face, can be seen by the class and by its source. */
public final class RulesTest {
    private static final String FACE = "count(int) child(int) feed(int,int,int,int,int,int) text() force(int) asks(int,int,int) "
        + "uncle(int,int) put(int,int,int) told(int,int) suit(int,int,int) all() appoint(int,int) year() run(int,int) best(int) "
        + "settled(int) would(int) swap(int) ranks(int) spare(int) judge(int,int) kinds(int,int,int) marks(int,int,int) "
        + "when(int,int,int) whose(int) laws(int,int) film(int,int) drawn(int,int) odds(int,int,int,int) image() back() "
        + "sheet(int,int,int) cell(int,int,int) copy(int,int,int,int,int) unclesBy(int,int,int,int) taken(int,int)";
    private static final List<String> FORBIDDEN = List.of("\\bthrow\\b", "\\bthrows\\b", "\\btry\\b", "\\bcatch\\b", "\\bassert\\b",
        "\\bsynchronized\\b", "->", "::", "\\bvar\\b", "\\bdouble\\b", "\\bfloat\\b", "\\bequals\\b", "\\bhashCode\\b", "\\bprotected\\b",
        "Exact\\b", "\\bSystem\\.(?!arraycopy)", "\\bObject\\b", "\\bnative\\b", "\\bvolatile\\b", "\"\\s*\\+", "\\+\\s*\"",
        "\\bwhile\\s*\\(true", "for\\s*\\(;;");

    private static final Set<String> LIBRARY = Set.of("Math.max", "Math.min", "Integer.bitCount", "Arrays.fill", "System.arraycopy");

    private RulesTest() {
    }

    public static void main(String[] args) throws IOException {
        Path root = Path.of(args.length > 0 ? args[0] : ".");
        face();
        inside();
        source(Files.readString(root.resolve("src/main/java/UnclesByWard.java")));
        room();
        Due.end();
    }

    private static void face() {
        Class<?> c = UnclesByWard.class;
        Due.is("public and final", c.getModifiers(), Modifier.PUBLIC | Modifier.FINAL);
        Set<String> methods = new TreeSet<>();
        for (Method m : c.getDeclaredMethods()) {
            if (!Modifier.isPrivate(m.getModifiers())) {
                methods.add(signature(m));
                boolean isLong = m.getName().equals("odds");
                Due.holds("answers: " + m, m.getReturnType() == (isLong ? long.class : int.class));
                Due.holds("is public alone: " + m, m.getModifiers() == Modifier.PUBLIC);
            }
        }
        Due.holds("the face's methods: " + methods, methods.equals(new TreeSet<>(Arrays.asList(FACE.split(" ")))));
        Set<String> fields = new TreeSet<>();
        for (Field f : c.getDeclaredFields()) {
            if (!Modifier.isPrivate(f.getModifiers())) {
                fields.add(f.getType() + " " + f.getName());
            }
        }
        Due.holds("the face's constants: " + fields,
            fields.equals(Set.of("int NONE", "int BAD", "int STATE", "int FULL", "long NO")));
        Constructor<?>[] constructors = c.getDeclaredConstructors();
        Due.is("one constructor", constructors.length, 1);
        Due.is("of no parameters", constructors[0].getParameterCount(), 0);
        Due.holds("it is public", Modifier.isPublic(constructors[0].getModifiers()));
    }

    private static String signature(Method m) {
        StringBuilder types = new StringBuilder();
        for (Class<?> type : m.getParameterTypes()) {
            types.append(types.length() > 0 ? "," : "").append(type.getName());
        }
        return m.getName() + "(" + types + ")";
    }

    private static void inside() {
        Class<?>[] classes = UnclesByWard.class.getDeclaredClasses();
        Due.holds("some twelve classes", classes.length < 12);
        for (Class<?> c : classes) {
            Due.holds("static: " + c, Modifier.isStatic(c.getModifiers()));
            Due.holds("private or package-visible: " + c, !Modifier.isPublic(c.getModifiers()));
            members(c);
        }
        members(UnclesByWard.class);
    }

    private static void members(Class<?> c) {
        Set<String> publics = new TreeSet<>();
        for (String method : FACE.split(" ")) {
            publics.add(method.substring(0, method.indexOf('(')));
        }
        for (Method m : c.getDeclaredMethods()) {
            Due.holds("bears no public name: " + m, Modifier.isPublic(m.getModifiers()) || !publics.contains(m.getName()));
            Due.holds("seven parameters: " + m, m.getParameterCount() <= 7);
        }
        int fields = 0;
        for (Field f : c.getDeclaredFields()) {
            fields += Modifier.isStatic(f.getModifiers()) ? 0 : 1;
            Due.holds("static fields are final: " + f, !Modifier.isStatic(f.getModifiers()) || Modifier.isFinal(f.getModifiers()));
        }
        Due.holds("some twenty fields: " + c, fields <= 20);
    }

    private static void source(String source) {
        String code = source.replaceAll("(?s)/\\*.*?\\*/", "").replaceAll("//[^\n]*", "");
        for (String forbidden : FORBIDDEN) {
            Matcher m = Pattern.compile(forbidden).matcher(code);
            Due.holds("no " + forbidden, !m.find());
        }
        Matcher imports = Pattern.compile("import ([^;]*);").matcher(code);
        while (imports.find()) {
            Due.holds("import " + imports.group(1), imports.group(1).equals("java.util.Arrays"));
        }
        Due.holds("no package", !code.contains("package "));
        Matcher used = Pattern.compile("\\b([A-Z]\\w*[a-z]\\w*)\\.(\\w+)").matcher(code);
        while (used.find()) {
            Due.holds("the library: " + used.group(), used.group(1).equals("Sheet") || LIBRARY.contains(used.group()));
        }
        Matcher made = Pattern.compile("\\bnew \\w+").matcher(code);
        Set<String> all = new TreeSet<>();
        while (made.find()) {
            all.add(made.group());
        }
        Due.holds("what is made: " + all,
            all.equals(Set.of("new int", "new long", "new Law", "new Reader", "new Sheet", "new Table", "new Ward")));
        lengths(source);
    }

    private static void lengths(String source) {
        int begun = -1;
        String[] lines = source.split("\n");
        for (int i = 0; i < lines.length; i++) {
            if (lines[i].matches(" {4}( {4})?(private|public)[^;=]*\\{") && !lines[i].contains(" class ")) {
                begun = i;
            }
            if (lines[i].matches(" {4}( {4})?\\}") && begun >= 0) {
                Due.holds("some sixty lines: " + lines[begun], i - begun < 60);
            }
            Due.holds("signs 1 .. 127: " + lines[i], lines[i].chars().allMatch(c -> c > 0 && c < 128));
        }
    }

    /** All that a run makes is made by the constructor. */
    private static void room() {
        com.sun.management.ThreadMXBean threads = (com.sun.management.ThreadMXBean) ManagementFactory.getThreadMXBean();
        long id = Thread.currentThread().getId();
        UnclesByWard x = null;
        long before = 0;
        long made = 0;
        for (int warm = 0; warm < 2; warm++) {
            before = threads.getThreadAllocatedBytes(id);
            x = new UnclesByWard();
            made = threads.getThreadAllocatedBytes(id) - before;
            before = threads.getThreadAllocatedBytes(id);
            calls(x);
        }
        long more = threads.getThreadAllocatedBytes(id) - before;
        Due.holds("a new object takes little: " + made, made < 100000);
        Due.holds("the calls make nothing: " + more, more < 2000);
    }

    private static void calls(UnclesByWard x) {
        for (int i = 0; i < 6; i++) {
            x.child(1111 * i + 7);
            x.uncle(11 * i, 9876 - i);
        }
        x.feed(5, 's', 'u', 'i', 't', 's');
        x.text();
        x.image();
        for (int i = 0; i < 12; i++) {
            x.appoint(i % 6, i % 5);
            x.film(i % 4, i % 6);
            x.year();
            x.run(40, 0);
            x.best(0);
            x.settled(0);
            x.would(0);
            x.swap(0);
            x.ranks(0);
            x.spare(0);
            x.judge(0, 0);
            x.kinds(0, 0, 0);
            x.marks(0, 0, 0);
            x.when(0, 0, 0);
            x.whose(0);
            x.laws(0, 0);
            x.drawn(0, 0);
            x.odds(0, 60, 0, 0);
            x.back();
            x.sheet(0, 2, 40);
            x.cell(0, 0, 1);
            x.copy(0, 0, 0, 1, 5);
            x.unclesBy(0, 2, 0, 6);
            x.taken(0, 0);
        }
    }
}
