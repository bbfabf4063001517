import java.io.IOException;
import java.lang.reflect.Constructor;
import java.lang.reflect.Field;
import java.lang.reflect.Method;
import java.lang.reflect.Modifier;
import java.nio.file.Files;
import java.nio.file.Path;
import java.util.ArrayList;
import java.util.List;
import java.util.Set;
import java.util.TreeSet;
import java.util.regex.Matcher;
import java.util.regex.Pattern;

/** What can be looked at of LANGUAGE.md: the face (1), kinds of classes (2), words (4, 6), static fields (5), sizes (11, 12). */
public final class RulesTest {
    private static final String FACE = "int feed(int,int,int,int,int);boolean end(int);int fault();int room();int of(int,int);int height(int,int);"
        + "int paper(int,int,int,int,int);boolean trim(int);int done(int,int,int,int);int strip(int,int,int);int piece(int,int,int);"
        + "int rolls(int,int);int left(int,int,int);int faults(int,int);int best(int,int,int,int);int shown(int,int);int run(int,int,int);"
        + "int cuts(int);int batch(int,int);int shared(int,int);int own(int,int);int all(int);int keep(int,int,int);int mended(int,int);"
        + "int border(int,int,int);int day(int,int,int,int,int);int hang(int,int);boolean image(int);boolean on(int);int count(int)";

    public static void main(String[] args) throws IOException {
        face();
        List<Class<?>> classes = new ArrayList<>(List.of(HalfDrop.class.getDeclaredClasses()));
        classes.forEach(RulesTest::inside);
        classes.add(HalfDrop.class);
        classes.forEach(RulesTest::sizes);
        Check.due("at most twelve classes", true, classes.size() <= 12);
        source();
        nothingMade();
        Check.finish();
    }

    private static void face() {
        Check.due("public and final", Modifier.PUBLIC | Modifier.FINAL, HalfDrop.class.getModifiers());
        Set<String> methods = new TreeSet<>();
        for (Method method : HalfDrop.class.getDeclaredMethods()) {
            if (!Modifier.isPrivate(method.getModifiers())) {
                String types = java.util.Arrays.toString(method.getParameterTypes()).replaceAll("[\\[\\] ]", "");
                methods.add(method.getReturnType() + " " + method.getName() + "(" + types + ")");
            }
        }
        Check.due("methods of the face: " + methods, true, methods.equals(new TreeSet<>(List.of(FACE.split(";")))));
        Set<String> fields = new TreeSet<>();
        for (Field field : HalfDrop.class.getDeclaredFields()) {
            if (!Modifier.isPrivate(field.getModifiers())) {
                fields.add(Modifier.toString(field.getModifiers()) + " " + field.getName());
            }
        }
        Check.due("constants of the face: " + fields, true, fields.equals(Set.of("public static final NONE", "public static final VOID")));
        Check.due("one constructor", 1, HalfDrop.class.getDeclaredConstructors().length);
        Check.due("it's public", Modifier.PUBLIC, HalfDrop.class.getDeclaredConstructors()[0].getModifiers());
        Check.due("it takes nothing", 0, HalfDrop.class.getDeclaredConstructors()[0].getParameterCount());
        Check.due("NONE", -1, HalfDrop.NONE);
        Check.due("VOID", Integer.MIN_VALUE, HalfDrop.VOID);
    }

    private static void inside(Class<?> inner) {
        Check.due(inner + " is private and static", true, Modifier.isPrivate(inner.getModifiers()) && Modifier.isStatic(inner.getModifiers()));
        Check.due(inner + " has no class inside", 0, inner.getDeclaredClasses().length);
    }

    private static void sizes(Class<?> each) {
        Set<String> names = new TreeSet<>();
        for (Method method : HalfDrop.class.getDeclaredMethods()) {
            if (Modifier.isPublic(method.getModifiers())) {
                names.add(method.getName());
            }
        }
        for (Method method : each.getDeclaredMethods()) {
            Check.due(method + " has at most seven parameters", true, method.getParameterCount() <= 7);
            boolean bears = names.contains(method.getName()) && !Modifier.isPublic(method.getModifiers());
            Check.due(method + " bears a public name", false, bears);
        }
        for (Constructor<?> constructor : each.getDeclaredConstructors()) {
            Check.due(constructor + " has at most seven parameters", true, constructor.getParameterCount() <= 7);
        }
        int fields = 0;
        for (Field field : each.getDeclaredFields()) {
            boolean isStatic = Modifier.isStatic(field.getModifiers());
            fields += isStatic ? 0 : 1;
            Check.due(field + " is final if static", true, !isStatic || Modifier.isFinal(field.getModifiers()));
        }
        Check.due(each + " has at most twenty fields", true, fields <= 20);
    }

    private static void source() throws IOException {
        String text = Files.readString(Path.of("src/main/java/HalfDrop.java"));
        for (char sign : text.toCharArray()) {
            if (sign > 126 || sign < 32 && sign != '\n') {
                Check.due("a sign that isn't plain: " + (int) sign, 0, 1);
            }
        }
        String code = text.replaceAll("(?s)/\\*.*?\\*/", "").replaceAll("//[^\n]*", "").replaceAll("\"[^\"\n]*\"", "\"\"");
        String forbidden = "\\b(import|package|throw|throws|try|catch|finally|synchronized|assert|native|volatile|transient|double|float|Object|System"
            + "|equals|hashCode|toString|Thread|Exception|Error|goto|var|yield)\\b|->|::|\\bstatic\\s*\\{|\\w+Exact\\b|@";
        Matcher found = Pattern.compile(forbidden).matcher(code);
        while (found.find()) {
            Check.due("a word that may not stand there: " + found.group(), 0, 1);
        }
        int longest = 0;
        int since = 0;
        String[] lines = text.split("\n");
        for (int i = 0; i < lines.length; i++) {
            if (lines[i].matches("( {4}| {8})[\\w].*[({,]$") && !lines[i].contains(" class ")) {
                since = i;
            }
            if (lines[i].matches(" {4}}| {8}}")) {
                longest = Math.max(longest, i - since + 1);
            }
        }
        Check.due("methods of at most sixty lines, the longest has " + longest, true, longest <= 60);
    }

    /** A run has one room of memory for all calls, so calls that are asked often make nothing. */
    private static void nothingMade() {
        com.sun.management.ThreadMXBean bean = (com.sun.management.ThreadMXBean) java.lang.management.ManagementFactory.getThreadMXBean();
        long id = Thread.currentThread().getId();
        HalfDrop x = Check.withRoom("wall 300 250 250;wall 300 260 240;wall 299 250 250;door 0 0 300 200;window 1 0 300 100 200;stand 2 100 100;");
        x.paper(120, 60, 1, 1000, 10020);
        x.batch(0, 9);
        x.batch(0, 9);
        x.keep(0, 400, 0);
        x.done(0, 0, 7, 0);
        x.image(0);
        everyCall(x);
        long before = bean.getThreadAllocatedBytes(id);
        for (int n = 0; n < 50; n++) {
            everyCall(x);
        }
        long made = bean.getThreadAllocatedBytes(id) - before;
        Check.due("fifty rounds of calls make next to nothing, " + made + " bytes", true, made < 20000);
        before = bean.getThreadAllocatedBytes(id);
        for (int n = 0; n < 10; n++) {
            new HalfDrop();
        }
        made = (bean.getThreadAllocatedBytes(id) - before) / 10;
        Check.due("an object is small, " + made + " bytes", true, made < 80000);
    }

    private static void everyCall(HalfDrop x) {
        x.feed(0x77616c6c, 0x20313030, 0x20323030, 0x20323030, 0x3b202020);
        x.fault();
        x.end(0);
        x.room();
        x.of(0, 8);
        x.height(0, 9);
        x.done(0, 0, 7, 0);
        x.strip(0, 1, 2);
        x.piece(0, 1, 5);
        x.rolls(0, 0);
        x.left(0, 0, 0);
        x.faults(0, 0);
        x.best(0, 0, 3, 0);
        x.shown(0, 1);
        x.run(0, 1, 1);
        x.cuts(0);
        x.shared(0, 1);
        x.own(0, 1);
        x.all(0);
        x.mended(0, 1);
        x.border(0, 100, 100);
        x.day(0, 2, 1010, 1, 0);
        x.hang(0, 1);
        x.image(0);
        x.on(0);
        x.count(0);
    }
}
