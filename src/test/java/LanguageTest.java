import java.io.IOException;
import java.lang.reflect.Member;
import java.lang.reflect.Method;
import java.lang.reflect.Modifier;
import java.nio.file.Files;
import java.nio.file.Path;
import java.util.ArrayList;
import java.util.List;
import java.util.TreeSet;
import java.util.regex.Matcher;
import java.util.regex.Pattern;

/** What of ../shared/LANGUAGE.md can be seen from the source's words and from the compiled face. */
public final class LanguageTest {
    private static final List<String> FORBIDDEN = List.of("\\bimport\\b", "\\bpackage\\b", "\\bthrows?\\b", "\\btry\\b",
            "\\bcatch\\b", "\\bsynchronized\\b", "\\bassert\\b", "->", "::", "\\bequals\\b", "Exact\\b",
            "\\bstatic\\s*\\{", "\\bdouble\\b", "\\bfloat\\b", "\\bObject\\b", "MAX_VALUE", "MIN_VALUE");
    private static final List<String> FACE = List.of("letter/1", "house/0", "hole/2", "weather/2", "set/2", "fan/1", "now/1",
            "size/2", "outside/1", "push/1", "flow/1", "lean/1", "coal/0", "smokes/0", "stopped/1", "best/2", "pairs/1",
            "shut/2", "chair/0", "finger/0", "number/1", "winter/0", "turnsAbout/0", "sizes/3", "hidden/2", "days/2",
            "row/1", "judge/0", "image/0", "on/0", "count/1");

    public static void main(String[] args) throws IOException {
        List<String> faults = new ArrayList<>();
        String source = Files.readString(Path.of("src/main/java/DraughtsByCandle.java"));
        String code = source.replaceAll("(?s)/\\*.*?\\*/", "").replaceAll("//[^\n]*", "");
        for (String forbidden : FORBIDDEN) {
            Matcher m = Pattern.compile(forbidden).matcher(code);
            if (m.find()) faults.add("the source has " + m.group());
        }
        if (!source.chars().allMatch(c -> c == '\n' || c >= 32 && c < 127)) faults.add("a sign beyond 127");
        face(faults);
        for (String fault : faults) System.out.println(fault);
        System.out.println(faults.isEmpty() ? "the language is kept, as far as is seen here" : "the language is not kept");
        if (!faults.isEmpty()) System.exit(1);
    }

    private static void face(List<String> faults) {
        Class<?> c = DraughtsByCandle.class;
        TreeSet<String> names = new TreeSet<>();
        TreeSet<String> found = new TreeSet<>();
        for (Method m : c.getDeclaredMethods()) {
            if (Modifier.isPublic(m.getModifiers())) {
                found.add(m.getName() + "/" + m.getParameterCount());
                names.add(m.getName());
                if (m.getReturnType() != int.class) faults.add(m.getName() + " answers no int");
            } else {
                mustBePrivate(m, faults);
            }
        }
        if (!found.equals(new TreeSet<>(FACE))) faults.add("the face is " + found);
        for (Member field : c.getDeclaredFields()) mustBePrivate(field, faults);
        if (c.getConstructors().length != 1 || !Modifier.isFinal(c.getModifiers())) faults.add("constructor, or not final");
        for (Class<?> inside : c.getDeclaredClasses()) {
            if (!Modifier.isStatic(inside.getModifiers())) faults.add(inside + " is not static");
            if (inside.getDeclaredFields().length > 20) faults.add(inside + " has many fields");
            for (Method m : inside.getDeclaredMethods()) {
                if (names.contains(m.getName())) faults.add(inside + " has a " + m.getName() + " too");
            }
        }
        for (Method m : c.getDeclaredMethods()) {
            if (Modifier.isPrivate(m.getModifiers()) && names.contains(m.getName())) faults.add("private " + m.getName());
        }
    }

    private static void mustBePrivate(Member m, List<String> faults) {
        if (!Modifier.isPrivate(m.getModifiers())) faults.add(m.getName() + " is not private");
    }
}
