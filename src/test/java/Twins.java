import java.lang.reflect.InvocationTargetException;
import java.lang.reflect.Method;
import java.util.ArrayList;
import java.util.Arrays;
import java.util.List;
import java.util.Map;
import java.util.TreeMap;

/** An object of the class and one of PlainModel side by side: each call is made on both, and must be answered the same. */
final class Twins {
    /** So many calls an object is used for. */
    static final int CALLS = 512;
    private static final Map<String, Method> OF_CLASS = new TreeMap<>();
    private static final Map<String, Method> OF_MODEL = new TreeMap<>();

    static {
        for (Method m : PlainModel.class.getMethods()) {
            if (m.getDeclaringClass() == PlainModel.class) {
                OF_MODEL.put(m.getName(), m);
                OF_CLASS.put(m.getName(), likeInClass(m));
            }
        }
    }

    final PlainModel model = new PlainModel();
    private final BeggarCorners ours = new BeggarCorners();
    private final List<String> log = new ArrayList<>();

    private static Method likeInClass(Method m) {
        try {
            return BeggarCorners.class.getMethod(m.getName(), m.getParameterTypes());
        } catch (NoSuchMethodException e) {
            throw new IllegalStateException(e);
        }
    }

    static List<String> names() {
        return new ArrayList<>(OF_CLASS.keySet());
    }

    static int argumentsOf(String name) {
        return OF_CLASS.get(name).getParameterCount();
    }

    boolean haveCallsLeft() {
        return log.size() < CALLS;
    }

    /** Whether both answer the same; else all calls so far are told. What the class throws is no answer. */
    boolean call(String name, int... args) {
        Object[] boxed = Arrays.stream(args).boxed().toArray();
        Object want = answer(OF_MODEL.get(name), model, boxed);
        Object got = answer(OF_CLASS.get(name), ours, boxed);
        log.add(name + Arrays.toString(args) + " " + got);
        boolean same = want.equals(got);
        if (!same) {
            log.forEach(System.out::println);
            System.out.println("due is " + want);
        }
        return same;
    }

    private static Object answer(Method method, Object of, Object[] args) {
        try {
            return method.invoke(of, args);
        } catch (InvocationTargetException e) {
            e.getCause().printStackTrace();
            return e.getCause().toString();
        } catch (IllegalAccessException e) {
            throw new IllegalStateException(e);
        }
    }
}
