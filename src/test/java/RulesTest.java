import java.io.IOException;
import java.util.ArrayList;
import java.util.HashSet;
import java.util.LinkedHashMap;
import java.util.List;
import java.util.Map;
import java.util.Set;
import java.util.TreeSet;

/** The rules of LANGUAGE.md that can be read from the compiled class: what it calls, how deep, and what it divides by. */
public final class RulesTest {
    private static final int MOST_DEEP = 8;
    /** What rule 4 lists of static functions and of texts, as far as a class of ints has use for it. */
    private static final Set<String> LIBRARY = Set.of("java/lang/Object.<init>()V",
            "java/lang/String.length()I", "java/lang/String.charAt(I)C", "java/lang/String.indexOf(I)I", "java/lang/String.isEmpty()Z",
            "java/lang/Math.abs(I)I", "java/lang/Math.max(II)I", "java/lang/Math.min(II)I",
            "java/lang/System.arraycopy(Ljava/lang/Object;ILjava/lang/Object;II)V",
            "java/util/Arrays.fill([II)V", "java/util/Arrays.copyOf([II)[I");
    /** Each of them looks at its divisor ahead of it. */
    private static final Set<String> DIVIDING = Set.of("BeggarCorners.rest(II)I", "BeggarCorners$Text.joined(III)I");
    private static final Set<String> CALLING_THEMSELVES = Set.of("BeggarCorners$Reader.readLevel(III)V", "BeggarCorners$Reader.readPiece(II)V");
    private static final Map<String, Bytecode.Method> METHODS = new LinkedHashMap<>();
    private static int wrong = 0;

    public static void main(String[] args) throws IOException {
        List<Class<?>> all = new ArrayList<>(List.of(BeggarCorners.class.getDeclaredClasses()));
        all.add(BeggarCorners.class);
        for (Class<?> type : all) {
            for (Bytecode.Method m : Bytecode.methodsOf(type)) {
                METHODS.put(m.full(), m);
            }
        }
        if (METHODS.size() < 41) {
            fault("only " + METHODS.size() + " methods were found");
        }
        for (Bytecode.Method m : METHODS.values()) {
            nothingThrown(m);
            libraryOf(m);
            divisorsOf(m);
            handsOut(m);
        }
        if (recursionIsKnown()) {
            depth();
        }
        System.out.println(wrong == 0 ? METHODS.size() + " methods keep the rules" : wrong + " rules are not kept");
        if (wrong > 0) {
            System.exit(1);
        }
    }

    private static void fault(String what) {
        wrong++;
        System.out.println(what);
    }

    /** Rules 6, 10: no throw, no catch, no lock, no cast, no lambda and no joining of texts by +. */
    private static void nothingThrown(Bytecode.Method m) {
        if (m.handlers() > 0) {
            fault(m.full() + " catches");
        }
        for (Bytecode.Step s : m.steps()) {
            int op = s.code();
            if (op == Bytecode.ATHROW || op == Bytecode.CHECKCAST || op == Bytecode.INVOKE_DYNAMIC
                    || op == Bytecode.MONITOR_ENTER || op == Bytecode.MONITOR_EXIT) {
                fault(m.full() + " has the instruction " + op + " at " + s.place());
            }
        }
    }

    private static List<String> calledBy(Bytecode.Method m) {
        List<String> called = new ArrayList<>();
        for (Bytecode.Step s : m.steps()) {
            if (s.code() >= Bytecode.INVOKE_VIRTUAL && s.code() <= Bytecode.INVOKE_INTERFACE) {
                called.add(s.named());
            }
        }
        return called;
    }

    /** Rule 4: no library but what it lists. */
    private static void libraryOf(Bytecode.Method m) {
        for (String called : calledBy(m)) {
            if (!METHODS.containsKey(called) && !LIBRARY.contains(called)) {
                fault(m.full() + " calls " + called);
            }
        }
        for (Bytecode.Step s : m.steps()) {
            if (s.code() == Bytecode.NEW && !s.named().startsWith("BeggarCorners$")) {
                fault(m.full() + " makes a " + s.named());
            }
        }
    }

    /** Rule 7: what is divided by is a number written there, other than 0, but for the methods that look at it. */
    private static void divisorsOf(Bytecode.Method m) {
        for (int i = 0; i < m.steps().size(); i++) {
            int op = m.steps().get(i).code();
            if (op != 108 && op != 109 && op != 112 && op != 113) {
                continue;
            }
            int before = i == 0 ? 0 : m.steps().get(i - 1).code();
            boolean written = before >= 2 && before <= 8 || before >= 16 && before <= 20;
            boolean zero = written && m.steps().get(i - 1).operand() == 0;
            if (zero || !written && !DIVIDING.contains(m.full())) {
                fault(m.full() + " divides by what may be 0");
            }
        }
    }

    /** Rule 12: a constructor hands nothing of the object that it makes to another one, and calls none of its methods. */
    private static void handsOut(Bytecode.Method m) {
        if (!m.name().equals("<init>")) {
            return;
        }
        for (String called : calledBy(m)) {
            boolean own = METHODS.containsKey(called);
            if (own && !called.endsWith(".<init>()V")) {
                fault(m.full() + " calls " + called);
            }
        }
    }

    private static Set<String> reachedFrom(String start) {
        Set<String> reached = new HashSet<>();
        List<String> open = new ArrayList<>(List.of(start));
        while (!open.isEmpty()) {
            Bytecode.Method m = METHODS.get(open.remove(open.size() - 1));
            for (String called : m == null ? List.<String>of() : calledBy(m)) {
                if (reached.add(called)) {
                    open.add(called);
                }
            }
        }
        return reached;
    }

    /** Rule 8: private methods alone call themselves, by others too, and it is known which. */
    private static boolean recursionIsKnown() {
        Set<String> found = new TreeSet<>();
        for (Bytecode.Method m : METHODS.values()) {
            if (reachedFrom(m.full()).contains(m.full())) {
                found.add(m.full());
                if (!m.isPrivate()) {
                    fault(m.full() + " calls itself and is not private");
                }
            }
        }
        if (!found.equals(CALLING_THEMSELVES)) {
            fault("these call themselves: " + found);
        }
        return found.equals(CALLING_THEMSELVES);
    }

    /** Rule 11: calls that are no recursion go at most eight deep. */
    private static void depth() {
        Map<String, Integer> known = new LinkedHashMap<>();
        for (Bytecode.Method m : METHODS.values()) {
            int deep = depthOf(m.full(), known);
            if (deep > MOST_DEEP) {
                fault(m.full() + " goes " + deep + " deep");
            }
        }
    }

    private static int depthOf(String name, Map<String, Integer> known) {
        if (!METHODS.containsKey(name)) {
            return 0;
        }
        if (!known.containsKey(name)) {
            int below = 0;
            for (String one : CALLING_THEMSELVES.contains(name) ? CALLING_THEMSELVES : Set.of(name)) {
                below = Math.max(below, deepestBelow(one, known));
            }
            known.put(name, below + 1);
        }
        return known.get(name);
    }

    /** What call themselves and one another count as one. */
    private static int deepestBelow(String name, Map<String, Integer> known) {
        int below = 0;
        for (String called : METHODS.containsKey(name) ? calledBy(METHODS.get(name)) : List.<String>of()) {
            boolean recursion = CALLING_THEMSELVES.contains(name) && CALLING_THEMSELVES.contains(called);
            below = Math.max(below, recursion ? 0 : depthOf(called, known));
        }
        return below;
    }
}
