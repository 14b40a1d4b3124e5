import java.lang.reflect.Constructor;
import java.lang.reflect.Field;
import java.lang.reflect.Method;
import java.lang.reflect.Modifier;
import java.nio.file.Files;
import java.nio.file.Path;
import java.util.ArrayList;
import java.util.Arrays;
import java.util.HashSet;
import java.util.List;
import java.util.Set;
import java.util.TreeSet;
import java.util.regex.Matcher;
import java.util.regex.Pattern;

/** Whether the class has the document's face and keeps to those rules of LANGUAGE.md that can be seen from outside. */
public final class LanguageTest {
    private static final String[] FACE = {
        "beggar 3", "told 2", "given 4", "as 2", "turns 2", "set 3", "rent 2", "rule 2", "deal 1", "seed 1", "hours 1",
        "guild 1", "behind 2", "best 3", "letting 2", "takes 3", "bestRent 2", "mourned 2", "stood 3", "fee 0", "fine 1",
        "feed 3", "trim 1", "text 0", "textTold 2", "why 1", "sheet 3", "mark 3", "pour 1", "reads 1", "copy 5", "lay 3",
        "ask 2", "item 2", "rest 2", "tell 1", "check 1", "keep 0", "back 0", "count 1"};
    private static final String[] CONSTANTS = {"BAD", "NO", "FULL", "NONE", "NOTHING", "KIND", "INDEX", "SIZE"};
    private static final String[] BANNED = {"throw", "throws", "try", "catch", "finally", "synchronized", "assert", "protected",
        "native", "transient", "volatile", "lambda", "Object", "Math.random", "currentTimeMillis", "nanoTime", "Thread",
        "equals", "hashCode", "toString"};
    private static int wrong = 0;

    public static void main(String[] args) throws Exception {
        face();
        constants();
        nested();
        String source = Files.readString(Path.of(System.getProperty("beggar.source", "src/main/java/BeggarCorners.java")));
        String code = bare(source);
        banned(code);
        imports(source);
        lengths(code);
        System.out.println(wrong == 0 ? "the face and the rules are kept" : wrong + " rules are not kept");
        if (wrong > 0) {
            System.exit(1);
        }
    }

    private static void fault(String what) {
        wrong++;
        System.out.println(what);
    }

    private static void face() {
        Set<String> found = new TreeSet<>();
        for (Method m : BeggarCorners.class.getDeclaredMethods()) {
            if (Modifier.isPublic(m.getModifiers())) {
                found.add(m.getName() + " " + m.getParameterCount());
                boolean ints = m.getReturnType() == int.class && Arrays.stream(m.getParameterTypes()).allMatch(t -> t == int.class);
                if (!ints || Modifier.isStatic(m.getModifiers())) {
                    fault("not of ints, or static: " + m);
                }
            } else if (!Modifier.isPrivate(m.getModifiers())) {
                fault("neither public nor private: " + m);
            }
        }
        if (!found.equals(new TreeSet<>(Arrays.asList(FACE)))) {
            fault("the face is " + found);
        }
        Constructor<?>[] made = BeggarCorners.class.getDeclaredConstructors();
        if (made.length != 1 || !Modifier.isPublic(made[0].getModifiers()) || made[0].getParameterCount() != 0) {
            fault("the constructor");
        }
        if (BeggarCorners.class.getModifiers() != (Modifier.PUBLIC | Modifier.FINAL)) {
            fault("the class is not just public and final");
        }
    }

    private static void constants() throws IllegalAccessException {
        int[] values = {Due.BAD, Due.NO, Due.FULL, Due.NONE, Due.NOTHING, Due.KIND, Due.INDEX, Due.SIZE};
        List<String> found = new ArrayList<>();
        for (Field f : BeggarCorners.class.getDeclaredFields()) {
            if (Modifier.isPublic(f.getModifiers())) {
                found.add(f.getName());
                int place = Arrays.asList(CONSTANTS).indexOf(f.getName());
                if (place < 0 || f.getType() != int.class || f.getInt(null) != values[place]) {
                    fault("constant " + f);
                }
            } else if (!Modifier.isPrivate(f.getModifiers())) {
                fault("neither public nor private: " + f);
            }
        }
        if (!new HashSet<>(found).equals(new HashSet<>(Arrays.asList(CONSTANTS)))) {
            fault("the constants are " + found);
        }
    }

    private static void nested() {
        Set<String> names = new HashSet<>();
        for (String f : FACE) {
            names.add(f.substring(0, f.indexOf(' ')));
        }
        List<Class<?>> all = new ArrayList<>(Arrays.asList(BeggarCorners.class.getDeclaredClasses()));
        if (all.size() > 11) {
            fault("more than twelve classes");
        }
        for (Class<?> c : all) {
            if (!Modifier.isStatic(c.getModifiers())) {
                fault("not static: " + c);
            }
        }
        all.add(BeggarCorners.class);
        for (Class<?> c : all) {
            long fields = Arrays.stream(c.getDeclaredFields()).filter(f -> !Modifier.isStatic(f.getModifiers())).count();
            if (fields > 20) {
                fault("more than twenty fields: " + c);
            }
            for (Field f : c.getDeclaredFields()) {
                if (Modifier.isStatic(f.getModifiers()) && !Modifier.isFinal(f.getModifiers())) {
                    fault("static and not final: " + f);
                }
            }
            for (Method m : c.getDeclaredMethods()) {
                if (m.getParameterCount() > 7) {
                    fault("more than seven parameters: " + m);
                }
                if (!Modifier.isPublic(m.getModifiers()) && names.contains(m.getName())) {
                    fault("bears the name of a call: " + m);
                }
            }
        }
    }

    /** The source without comments, texts and signs in quotes. */
    private static String bare(String source) {
        return source.replaceAll("(?s)/\\*.*?\\*/", "").replaceAll("//[^\n]*", "")
                .replaceAll("\"[^\"\n]*\"", "\"\"").replaceAll("'[^'\n]'", "' '");
    }

    private static void banned(String code) {
        for (String word : BANNED) {
            if (Pattern.compile("\\b" + Pattern.quote(word) + "\\b").matcher(code).find()) {
                fault("the class uses " + word);
            }
        }
        for (String sign : new String[] {"->", "::", "@", "while (true)", "for (;;)"}) {
            if (code.contains(sign)) {
                fault("the class uses " + sign);
            }
        }
    }

    private static void imports(String source) {
        Matcher m = Pattern.compile("(?m)^(import|package) ([^;]*);").matcher(source);
        Set<String> allowed = Set.of("java.util.Arrays", "java.util.ArrayList", "java.util.List", "java.util.Iterator");
        while (m.find()) {
            if (m.group(1).equals("package") || !allowed.contains(m.group(2))) {
                fault("the class has " + m.group());
            }
        }
        if (!source.chars().allMatch(c -> c < 128)) {
            fault("the class has signs above 127");
        }
    }

    /** Methods stay short: a method begins with a line that ends in ") {" at a depth of classes alone. */
    private static void lengths(String code) {
        String[] lines = code.split("\n", -1);
        for (int i = 0; i < lines.length; i++) {
            Matcher m = Pattern.compile("^( {4}| {8})(?! )[a-zA-Z\\[\\] ]+\\([a-zA-Z\\[\\], ]*\\) \\{$").matcher(lines[i]);
            if (m.matches() && !lines[i].trim().matches("(if|for|while|switch|else).*")) {
                int end = i + 1;
                while (end < lines.length && !lines[end].equals(m.group(1) + "}")) {
                    end++;
                }
                if (end - i > 60) {
                    fault("a long method: " + lines[i].trim());
                }
            }
        }
    }
}
