import java.util.ArrayList;
import java.util.Collections;
import java.util.List;
import java.util.Random;

/**
 * Every call with every mixture of arguments from the ends of what is allowed and beyond, one after
 * the other in an order by lot, on the class and on PlainModel: of several faults the one that
 * stands first is answered, and nothing is thrown.
 */
public final class SweepTest {
    private static final int LEAST = Integer.MIN_VALUE, MOST = Integer.MAX_VALUE;
    /** By how many arguments a call has; the more, the fewer of each, so that all mixtures can be tried. */
    private static final int[][] VALUES = {
        {},
        {LEAST, -100000, -1, 0, 1, 2, 3, 4, 5, 6, 7, 8, 9, 13, 14, 30, 31, 60, 61, 96, 97, 100, 101, MOST},
        {LEAST, -1, 0, 1, 2, 3, 4, 5, 6, 7, 8, 9, 10, 11, 20, 21, 24, 40, 41, 60, 61, 100, 101, MOST},
        {LEAST, Due.NONE, -100000, -99999, -1, 0, 1, 2, 3, 4, 5, 8, 9, 20, 21, 24, 25, 40, 41, 60, 61, 99999, 100000, MOST},
        {LEAST, -1, 0, 1, 2, 3, 5, 8, 9, 10, MOST},
        {LEAST, -1, 0, 1, 2, 3, 4, MOST}};
    /** The sheets and slots hold something of each sort, and there is an image. */
    private static final String[] BEFORE = {"beggar 1 3 10", "beggar 0 1 20", "beggar 4 6 0", "rent 3 2", "rent 6 9", "hours 7",
        "sheet 0 0 4", "sheet 1 1 4", "mark 0 1 30", "mark 1 2 -1000000005", "mark 1 3 -77", "sheet 2 1 0", "lay 0 1 2",
        "lay 1 2 1", "lay 2 3 -11", "keep", "tell 3", "feed 1634495859 543369778 728182131"};

    private record Call(String name, int[] args) {
    }

    public static void main(String[] args) {
        List<Call> all = new ArrayList<>();
        for (String name : Twins.names()) {
            mix(all, name, new int[Twins.argumentsOf(name)], 0);
        }
        Collections.shuffle(all, new Random(41));
        Twins twins = null;
        for (Call c : all) {
            if (twins == null || !twins.haveCallsLeft()) {
                twins = prepared();
            }
            if (!twins.call(c.name(), c.args())) {
                System.exit(1);
            }
        }
        System.out.println(all.size() + " mixtures of arguments are answered as by the model");
    }

    private static void mix(List<Call> all, String name, int[] args, int place) {
        if (place == args.length) {
            all.add(new Call(name, args.clone()));
            return;
        }
        for (int v : VALUES[args.length]) {
            args[place] = v;
            mix(all, name, args, place + 1);
        }
    }

    private static Twins prepared() {
        Twins twins = new Twins();
        for (String line : BEFORE) {
            String[] words = line.split(" ");
            int[] args = new int[words.length - 1];
            for (int i = 0; i < args.length; i++) {
                args[i] = Integer.parseInt(words[i + 1]);
            }
            if (!twins.call(words[0], args)) {
                System.exit(1);
            }
        }
        return twins;
    }
}
