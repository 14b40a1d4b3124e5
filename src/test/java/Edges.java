import java.lang.reflect.Method;
import java.util.ArrayList;
import java.util.Arrays;
import java.util.List;
import java.util.function.Supplier;

/** Calls on fresh scenes: what each answers at the ends of what is allowed and beyond, and that a refused one changes nothing. */
final class Edges {
    private final Due due;
    private final Supplier<BeggarCorners> scene;
    private final List<String> untouched;

    private String name = "";
    private int[] args = {};
    private int place = 0;

    Edges(Due due, Supplier<BeggarCorners> scene) {
        this.due = due;
        this.scene = scene;
        untouched = Scene.seen(scene.get());
    }

    // ---- single calls

    static int ask(BeggarCorners x, String name, int... args) {
        Class<?>[] ints = new Class<?>[args.length];
        Arrays.fill(ints, int.class);
        try {
            Method call = BeggarCorners.class.getMethod(name, ints);
            return (Integer) call.invoke(x, Arrays.stream(args).boxed().toArray());
        } catch (ReflectiveOperationException e) {
            throw new IllegalStateException(told(name, args), e);
        }
    }

    private static String told(String name, int... args) {
        return name + Arrays.toString(args).replace('[', '(').replace(']', ')');
    }

    void answers(int want, String call, int... with) {
        due.is(told(call, with), ask(scene.get(), call, with), want);
    }

    /** Refused, and nothing has changed behind it. */
    void refused(int want, String call, int... with) {
        changesNothing(want, call, with);
    }

    void changesNothing(int want, String call, int... with) {
        refusedBut("nothing", want, call, with);
    }

    /** Refused, and nothing has changed behind it but what is told in lines that begin so. */
    void refusedBut(String changes, int want, String call, int... with) {
        BeggarCorners x = scene.get();
        due.is(told(call, with), ask(x, call, with), want);
        due.same("behind " + told(call, with), without(changes, Scene.seen(x)), without(changes, untouched));
    }

    private static List<String> without(String beginning, List<String> lines) {
        List<String> others = new ArrayList<>(lines);
        others.removeIf(line -> line.startsWith(beginning));
        return others;
    }

    // ---- the ends of what is allowed for one argument, the others as given by of

    Edges of(String call, int... with) {
        name = call;
        args = with;
        return this;
    }

    Edges at(int argument) {
        place = argument;
        return this;
    }

    private int[] with(int v) {
        int[] changed = args.clone();
        changed[place] = v;
        return changed;
    }

    /** The least value that is allowed has this answer, those below it are BAD. */
    Edges from(int least, int want) {
        return from(least, want, Due.BAD);
    }

    Edges from(int least, int want, int below) {
        answers(want, name, with(least));
        refused(below, name, with(least - 1));
        refused(below, name, with(Integer.MIN_VALUE));
        return this;
    }

    /** The greatest value that is allowed has this answer, those above it are BAD. */
    Edges to(int most, int want) {
        return to(most, want, Due.BAD);
    }

    Edges to(int most, int want, int above) {
        answers(want, name, with(most));
        refused(above, name, with(most + 1));
        refused(above, name, with(Integer.MAX_VALUE));
        return this;
    }

    /** All ints are allowed and have one answer. */
    Edges any(int want) {
        for (int v : new int[] {Integer.MIN_VALUE, -1, 0, 1, Integer.MAX_VALUE}) {
            answers(want, name, with(v));
        }
        return this;
    }
}
