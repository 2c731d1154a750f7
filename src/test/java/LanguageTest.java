import java.io.IOException;
import java.lang.reflect.Constructor;
import java.lang.reflect.Field;
import java.lang.reflect.Method;
import java.lang.reflect.Modifier;
import java.nio.file.Files;
import java.nio.file.Path;
import java.util.ArrayList;
import java.util.Arrays;
import java.util.List;
import java.util.TreeSet;
import java.util.regex.Matcher;
import java.util.regex.Pattern;

/** The document's public face, and the rules of LANGUAGE.md that can be seen from outside. */
public final class LanguageTest {
    private static final String FACE = "feed(int,int,int,int,int) end(int) works() fault(int) height(int) pipe(int,int) bend(int,int,int)"
        + " need(int,int):long load(int,int) bows(int) press(int) wear(int,int) goes(int) why(int) bursts(int) first(int) next(int,int)"
        + " under(int,int) stay(int) cap(int) prop(int,boolean) widen(int,int) lever(int,int) trial(int) show() reach(int,int,int)"
        + " lights(int,int) taken(int,int) lives(int,int) when(int,int,int) moved(int,int,int,int,int) risk(int,int,int)"
        + " safest(int,int,int) whole() staying(int) asked(int,int) who(int,int) rules(int) held(int,boolean) count(int) judge(int)"
        + " other(int,int) keep(int) back(int) row(int,int,int) write(int,int,long) paste(int,int,int,int,int)";

    private static final Due DUE = new Due("LanguageTest");

    public static void main(String[] args) throws IOException {
        face();
        members();
        if (args.length > 0) {
            source(Files.readString(Path.of(args[0])));
        }
        DUE.end();
    }

    private static void holds(String rule, boolean is) {
        DUE.is(rule, is ? 1 : 0, 1);
    }

    private static String said(Method m) {
        List<String> types = new ArrayList<>();
        for (Class<?> t : m.getParameterTypes()) {
            types.add(t.getName());
        }
        return m.getName() + "(" + String.join(",", types) + ")" + (m.getReturnType() == int.class ? "" : ":" + m.getReturnType());
    }

    private static void face() {
        TreeSet<String> due = new TreeSet<>(Arrays.asList(FACE.split(" ")));
        TreeSet<String> got = new TreeSet<>();
        for (Method m : BellowsRow.class.getDeclaredMethods()) {
            if (Modifier.isPublic(m.getModifiers())) {
                got.add(said(m));
                holds("rule 1: not static " + m, !Modifier.isStatic(m.getModifiers()));
            } else {
                holds("rule 1: private " + m, Modifier.isPrivate(m.getModifiers()));
            }
        }
        holds("the face: " + got, got.equals(due));
        for (Field f : BellowsRow.class.getDeclaredFields()) {
            holds("rule 1: " + f, Modifier.isPrivate(f.getModifiers()) || f.getName().equals("NONE") && Modifier.isPublic(f.getModifiers()));
        }
        Constructor<?>[] makers = BellowsRow.class.getDeclaredConstructors();
        holds("one constructor", makers.length == 1 && makers[0].getParameterCount() == 0 && Modifier.isPublic(makers[0].getModifiers()));
        holds("final", Modifier.isFinal(BellowsRow.class.getModifiers()));
    }

    private static void members() {
        TreeSet<String> names = new TreeSet<>();
        for (Method m : BellowsRow.class.getDeclaredMethods()) {
            if (Modifier.isPublic(m.getModifiers())) {
                names.add(m.getName());
            }
        }
        List<Class<?>> all = new ArrayList<>(Arrays.asList(BellowsRow.class.getDeclaredClasses()));
        holds("rule 11: some twelve classes", all.size() <= 12);
        for (Class<?> c : all) {
            holds("rule 2: static " + c, Modifier.isStatic(c.getModifiers()) && !Modifier.isPublic(c.getModifiers()));
            holds("rule 2: no class within " + c, c.getDeclaredClasses().length == 0);
        }
        all.add(BellowsRow.class);
        for (Class<?> c : all) {
            int fields = 0;
            for (Field f : c.getDeclaredFields()) {
                boolean fixed = Modifier.isStatic(f.getModifiers());
                fields += fixed ? 0 : 1;
                holds("rule 5: " + f, !fixed || Modifier.isFinal(f.getModifiers()) && (f.getType().isPrimitive() || f.getType() == String.class));
            }
            holds("rule 11: twenty fields " + c, fields <= 20);
            for (Method m : c.getDeclaredMethods()) {
                boolean isFace = c == BellowsRow.class && Modifier.isPublic(m.getModifiers());
                holds("rule 1: no other method bears a public one's name: " + m, isFace || !names.contains(m.getName()));
                holds("rule 11: seven parameters " + m, m.getParameterCount() <= 7);
                holds("no method made by the compiler: " + m, !m.isSynthetic());
            }
        }
    }

    private static void source(String text) {
        String bare = text.replaceAll("(?s)/\\*.*?\\*/", "").replaceAll("//[^\n]*", "").replaceAll("\"[^\"\n]*\"", "\"\"");
        String[] out = {"\\bthrow", "\\btry\\b", "\\bcatch\\b", "\\bsynchronized\\b", "\\bassert\\b", "->", "::", "\\bimport\\b", "\\bpackage\\b",
            "Exact\\b", "\\bException\\b", "\\bError\\b", "MAX_VALUE", "MIN_VALUE", "\\bhashCode\\b", "\\btoString\\b", "\\bfloat\\b", "\\bdouble\\b",
            "\\bSystem\\.(?!arraycopy)", "\\bvar\\b", "@"};
        for (String o : out) {
            Matcher m = Pattern.compile(o).matcher(bare);
            holds("not in the program: " + o, !m.find());
        }
        Matcher library = Pattern.compile("\\b(Math|Integer|Long|System|Arrays)\\.(\\w+)").matcher(bare);
        List<String> allowed = List.of("Math.max", "Math.min", "Math.abs", "Integer.bitCount", "System.arraycopy");
        while (library.find()) {
            holds("rule 4: " + library.group(), allowed.contains(library.group()));
        }
        for (int i = 0; i < text.length(); i++) {
            if (text.charAt(i) > 126) {
                holds("plain signs alone", false);
            }
        }
        lengths(text);
    }

    /** Methods begin and end at four blanks, or at eight inside a class. */
    private static void lengths(String text) {
        int began = 0;
        String[] lines = text.split("\n");
        for (int i = 0; i < lines.length; i++) {
            boolean isHead = lines[i].matches("( {4}| {8})[a-zA-Z].*\\) \\{");
            boolean isEnd = lines[i].matches("( {4}| {8})\\}");
            if (isHead) {
                began = i;
            }
            if (isEnd && i - began > 60 && lines[began].indexOf(lines[began].trim()) == lines[i].indexOf('}')) {
                holds("rule 11: sixty lines: " + lines[began].trim(), false);
            }
        }
    }
}
