import java.io.IOException;
import java.lang.reflect.Field;
import java.lang.reflect.Member;
import java.lang.reflect.Method;
import java.lang.reflect.Modifier;
import java.nio.file.Files;
import java.nio.file.Path;
import java.util.ArrayList;
import java.util.List;
import java.util.TreeSet;
import java.util.regex.Matcher;
import java.util.regex.Pattern;

/** What of ../shared/LANGUAGE.md can be seen from the source's words and from the compiled classes. */
public final class LanguageTest {
    private static final List<String> FORBIDDEN = List.of("\\bimport\\b", "\\bpackage\\b", "\\bthrows?\\b", "\\btry\\b",
            "\\bcatch\\b", "\\bsynchronized\\b", "\\bassert\\b", "->", "::", "\\bequals\\b", "Exact\\b",
            "\\bstatic\\s*\\{", "\\bdouble\\b", "\\bfloat\\b", "\\bObject\\b", "MAX_VALUE", "MIN_VALUE");
    private static final List<String> FACE = List.of("letter/1", "house/0", "hole/2", "weather/2", "set/2", "fan/1", "now/1",
            "size/2", "outside/1", "push/1", "flow/1", "lean/1", "coal/0", "smokes/0", "stopped/1", "best/2", "pairs/1",
            "shut/2", "chair/0", "finger/0", "number/1", "winter/0", "turnsAbout/0", "sizes/3", "hidden/2", "days/2",
            "row/1", "judge/0", "image/0", "on/0", "count/1");

    /** Rule 4, of which the class needs this much; a call beyond it is looked up there first. */
    private static final Pattern LIBRARY = Pattern.compile("java/lang/Object\\.<init> \\(\\)V"
            + "|java/lang/String\\.(length|charAt|isEmpty|equals|substring|toCharArray|indexOf) .*"
            + "|java/lang/StringBuilder\\.(<init>|append|charAt|setCharAt|setLength|deleteCharAt|reverse|length|toString) .*"
            + "|java/lang/(Integer|Long|Math)\\.[a-zA-Z]+ \\([IJ]*\\)[IJ]"
            + "|java/lang/System\\.arraycopy .*|java/util/Arrays\\.(copyOf|copyOfRange|fill) .*");
    private static final int MOST_CLASSES = 12;
    private static final int MOST_FIELDS = 20;
    private static final int MOST_PARAMETERS = 7;
    private static final int MOST_LINES = 60;

    public static void main(String[] args) throws IOException {
        List<String> faults = new ArrayList<>();
        String source = Files.readString(Path.of("src/main/java/DraughtsByCandle.java"));
        String code = source.replaceAll("(?s)/\\*.*?\\*/", "").replaceAll("//[^\n]*", "");
        for (String forbidden : FORBIDDEN) {
            Matcher m = Pattern.compile(forbidden).matcher(code);
            if (m.find()) faults.add("the source has " + m.group());
        }
        if (!source.chars().allMatch(c -> c == '\n' || c >= 32 && c < 127)) faults.add("a sign beyond 127");
        face(faults);
        bounds(faults);
        lines(code, faults);
        library(faults);
        for (String fault : faults) System.out.println(fault);
        System.out.println(faults.isEmpty() ? "the language is kept, as far as is seen here" : "the language is not kept");
        if (!faults.isEmpty()) System.exit(1);
    }

    private static void face(List<String> faults) {
        Class<?> c = DraughtsByCandle.class;
        TreeSet<String> names = new TreeSet<>();
        TreeSet<String> found = new TreeSet<>();
        for (Method m : c.getDeclaredMethods()) {
            if (Modifier.isPublic(m.getModifiers())) {
                found.add(m.getName() + "/" + m.getParameterCount());
                names.add(m.getName());
                if (m.getReturnType() != int.class) faults.add(m.getName() + " answers no int");
            } else {
                mustBePrivate(m, faults);
            }
        }
        if (!found.equals(new TreeSet<>(FACE))) faults.add("the face is " + found);
        for (Member field : c.getDeclaredFields()) mustBePrivate(field, faults);
        if (c.getConstructors().length != 1 || !Modifier.isFinal(c.getModifiers())) faults.add("constructor, or not final");
        for (Class<?> inside : c.getDeclaredClasses()) {
            if (!Modifier.isStatic(inside.getModifiers())) faults.add(inside + " is not static");
            for (Method m : inside.getDeclaredMethods()) {
                if (names.contains(m.getName())) faults.add(inside + " has a " + m.getName() + " too");
            }
        }
        for (Method m : c.getDeclaredMethods()) {
            if (Modifier.isPrivate(m.getModifiers()) && names.contains(m.getName())) faults.add("private " + m.getName());
        }
    }

    private static void mustBePrivate(Member m, List<String> faults) {
        if (!Modifier.isPrivate(m.getModifiers())) faults.add(m.getName() + " is not private");
    }

    private static List<Class<?>> all() {
        List<Class<?>> classes = new ArrayList<>(List.of(DraughtsByCandle.class.getDeclaredClasses()));
        classes.add(DraughtsByCandle.class);
        return classes;
    }

    /** Rules 5 and 11. */
    private static void bounds(List<String> faults) {
        if (all().size() > MOST_CLASSES) faults.add("there are " + all().size() + " classes");
        for (Class<?> c : all()) {
            int fields = 0;
            for (Field f : c.getDeclaredFields()) {
                boolean fixed = Modifier.isFinal(f.getModifiers());
                if (Modifier.isStatic(f.getModifiers()) && !fixed) faults.add(f + " is not final");
                fields += Modifier.isStatic(f.getModifiers()) ? 0 : 1;
            }
            if (fields > MOST_FIELDS) faults.add(c + " has " + fields + " fields");
            for (Method m : c.getDeclaredMethods()) {
                if (m.getParameterCount() > MOST_PARAMETERS) faults.add(m + " takes many parameters");
            }
        }
    }

    /** Rule 11: a method begins with a line that ends in ") {" and ends with a brace as far in as that line. */
    private static void lines(String code, List<String> faults) {
        Matcher m = Pattern.compile("(?m)^( {4}| {8})(?! )[\\w\\[\\] ]+\\([\\w\\[\\], ]*\\) \\{$").matcher(code);
        while (m.find()) {
            int end = code.indexOf("\n" + m.group(1) + "}\n", m.end());
            long lines = end < 0 ? Long.MAX_VALUE : code.substring(m.start(), end).lines().count() + 1;
            if (lines > MOST_LINES) faults.add("a long method: " + m.group().trim());
        }
    }

    private static void library(List<String> faults) throws IOException {
        for (Class<?> c : all()) {
            ClassCalls calls = new ClassCalls(c);
            for (String member : calls.members) {
                boolean own = member.startsWith("DraughtsByCandle");
                if (!own && !LIBRARY.matcher(member).matches()) faults.add(c + " calls " + member);
            }
            for (String name : calls.classes) {
                if (name.contains("Exception") || name.contains("Error") || name.contains("Throwable")) faults.add(c + " has " + name);
            }
        }
    }
}
