import java.io.IOException;
import java.lang.reflect.Constructor;
import java.lang.reflect.Field;
import java.lang.reflect.Method;
import java.lang.reflect.Modifier;
import java.nio.file.Files;
import java.nio.file.Path;
import java.util.ArrayList;
import java.util.Arrays;
import java.util.Collections;
import java.util.HashSet;
import java.util.List;
import java.util.Set;
import java.util.regex.Matcher;
import java.util.regex.Pattern;

/** The public face, and the rules of LANGUAGE.md that can be looked for in the source; run from the project's root. */
public final class FaceTest {
    private static final String[] FACE = {
        "write(long,int)", "erase()", "fault()", "league()", "town(int,int)", "boy(int,int)", "as(int,int)", "give(int,int)",
        "drop()", "balance(int)", "judge()", "deal()", "ring(int)", "go(int)", "keep(int)", "back(int)", "later(int,int,int)",
        "without(int)", "owed(int,int)", "pays(int,int,int,int)", "gainers(int,int,int)", "weigh(int,int,int)", "forget()",
        "scales(int)", "road(int,int)", "arrive()", "who(int)", "count(int)"
    };
    private static final String[] CONSTANTS = {"NONE", "UNKNOWN", "OUTSIDE", "NOT", "FULL"};

    public static void main(String[] args) throws IOException {
        methods();
        constants();
        constructor();
        nestedClasses();
        source();
        Check.end();
    }

    private static void methods() {
        List<String> found = new ArrayList<>();
        Set<String> publicNames = new HashSet<>();
        for (Method m : PoundBoys.class.getDeclaredMethods()) {
            if (!Modifier.isPrivate(m.getModifiers())) {
                found.add(m.getName() + "(" + parameters(m.getParameterTypes()) + ")");
                publicNames.add(m.getName());
                Check.due(m + " is public", 1, Modifier.isPublic(m.getModifiers()) ? 1 : 0);
                Check.due(m + " is of int", 1, m.getReturnType() == int.class ? 1 : 0);
            }
        }
        List<String> due = new ArrayList<>(Arrays.asList(FACE));
        Collections.sort(due);
        Collections.sort(found);
        Check.due("the methods " + found, 1, found.equals(due) ? 1 : 0);
        for (Method m : PoundBoys.class.getDeclaredMethods()) {
            if (Modifier.isPrivate(m.getModifiers())) {
                Check.due(m + " bears a public name", 0, publicNames.contains(m.getName()) ? 1 : 0);
            }
        }
    }

    private static String parameters(Class<?>[] types) {
        List<String> names = new ArrayList<>();
        for (Class<?> type : types) {
            names.add(type.getName());
        }
        return String.join(",", names);
    }

    private static void constants() {
        int open = 0;
        for (Field f : PoundBoys.class.getDeclaredFields()) {
            if (!Modifier.isPrivate(f.getModifiers())) {
                open++;
            }
            if (Modifier.isStatic(f.getModifiers())) {
                Check.due(f + " is final", 1, Modifier.isFinal(f.getModifiers()) ? 1 : 0);
            }
        }
        Check.due("constants", CONSTANTS.length, open);
        int[] values = {PoundBoys.NONE, PoundBoys.UNKNOWN, PoundBoys.OUTSIDE, PoundBoys.NOT, PoundBoys.FULL};
        for (int i = 0; i < values.length; i++) {
            Check.due(CONSTANTS[i], -1 - i, values[i]);
        }
    }

    private static void constructor() {
        Constructor<?>[] all = PoundBoys.class.getDeclaredConstructors();
        Check.due("constructors", 1, all.length);
        Check.due("its parameters", 0, all[0].getParameterCount());
        Check.due("it is public", 1, Modifier.isPublic(all[0].getModifiers()) ? 1 : 0);
        int modifiers = PoundBoys.class.getModifiers();
        Check.due("the class is public and final", 1, Modifier.isPublic(modifiers) && Modifier.isFinal(modifiers) ? 1 : 0);
    }

    private static void nestedClasses() {
        Class<?>[] nested = PoundBoys.class.getDeclaredClasses();
        Check.due("at most twelve classes", 1, nested.length < 12 ? 1 : 0);
        for (Class<?> c : nested) {
            Check.due(c + " is static", 1, Modifier.isStatic(c.getModifiers()) ? 1 : 0);
            Check.due(c + " is not open", 0, c.getModifiers() & (Modifier.PUBLIC | Modifier.PROTECTED));
            for (Field f : c.getDeclaredFields()) {
                int modifiers = f.getModifiers();
                Check.due(f + " is final if static", 1, !Modifier.isStatic(modifiers) || Modifier.isFinal(modifiers) ? 1 : 0);
            }
        }
    }

    private static void source() throws IOException {
        String source = Files.readString(Path.of("src/main/java/PoundBoys.java"));
        String code = source.replaceAll("(?s)/\\*.*?\\*/", "").replaceAll("//[^\n]*", "").replaceAll("\"[^\"]*\"", "\"\"");
        String[] ruledOut = {
            "\\bthrow", "\\btry\\b", "\\bcatch\\b", "\\bsynchronized\\b", "\\bassert\\b", "->", "::", "\\bpackage\\b",
            "\\bdouble\\b", "\\bfloat\\b", "Exact\\b", "\\bThread\\b", "\\bSystem\\.(?!arraycopy)", "\\bRandom\\b", "\\bjava\\.", "%|[^/]/[^/*2 ]"
        };
        for (String what : ruledOut) {
            Matcher m = Pattern.compile(what).matcher(code);
            Check.due("the source has " + what, 0, m.find() ? 1 : 0);
        }
        Check.due("signs beyond 127", 0, source.chars().filter(c -> c > 127).count());
        rows(code);
    }

    /** All calls of a run live in one room: rows are made as an object's fields are, none by a call. */
    private static void rows(String code) {
        Pattern field = Pattern.compile(" +(private )?final [\\w\\[\\]]+ \\w+ = \\{?new .*;");
        int made = 0;
        for (String line : code.split("\n")) {
            if (Pattern.compile("\\bnew\\b|\\bclone\\(|\\bcopyOf").matcher(line).find()) {
                made++;
                Check.due("made by a call: " + line.trim(), 1, field.matcher(line).matches() ? 1 : 0);
            }
        }
        Check.due("rows are looked at", 1, made > 20 ? 1 : 0);
    }
}
