import java.util.ArrayList;
import java.util.List;
import java.util.Random;

/** Runs of calls by lot on the class and on PlainModel: both must answer the same, call by call. */
public final class ModelTest {
    private static final int RUNS = Integer.getInteger("beggar.runs", 1500);
    private static final List<String> NAMES = Twins.names();
    private static final int[] EDGES = {-1, 0, 1, 2, 3, 4, 5, 6, 7, 8, 9, 10, 11, 14, 20, 21, 24, 25, 30, 31, 40, 41, 60, 61, 96,
        97, 100, 101, -2, -5, Integer.MIN_VALUE, Integer.MAX_VALUE, -1000000005, 99999, 100000, -99999, -100000, 32768, 65535, 70000};

    private final Random lot;
    private final Twins twins = new Twins();
    private final PlainModel model = twins.model;

    private ModelTest(long seed) {
        lot = new Random(seed);
    }

    public static void main(String[] args) {
        for (int run = 0; run < RUNS; run++) {
            if (!new ModelTest(run).passes()) {
                System.out.println("run " + run + " differs");
                System.exit(1);
            }
        }
        System.out.println(RUNS + " runs by lot are answered as by the model");
    }

    private boolean passes() {
        List<String> often = new ArrayList<>();
        for (int i = 0; i < 6; i++) {
            often.add(NAMES.get(lot.nextInt(NAMES.size())));
        }
        while (twins.haveCallsLeft()) {
            String name = lot.nextInt(3) == 0 ? often.get(lot.nextInt(often.size())) : NAMES.get(lot.nextInt(NAMES.size()));
            boolean same;
            if (name.equals("text") || (name.equals("feed") && lot.nextInt(3) > 0)) {
                same = readsText();
            } else if (name.equals("check") && lot.nextInt(3) > 0) {
                same = checks();
            } else {
                same = isDear(name) && lot.nextInt(4) > 0 || call(name, argumentsOf(name));
            }
            if (!same) {
                return false;
            }
        }
        return true;
    }

    private static boolean isDear(String name) {
        return List.of("letting", "stood", "bestRent", "mourned", "best", "takes").contains(name);
    }

    private boolean call(String name, int... args) {
        return twins.call(name, args);
    }

    private int[] argumentsOf(String name) {
        int[] args = new int[Twins.argumentsOf(name)];
        boolean wild = lot.nextInt(8) == 0;
        for (int i = 0; i < args.length; i++) {
            args[i] = wild && lot.nextInt(2) == 0 ? EDGES[lot.nextInt(EDGES.length)] : likely(name, i, args);
        }
        return args;
    }

    private int likely(String name, int place, int[] args) {
        int size = Math.max(1, model.count(0));
        switch (name) {
            case "beggar": return lot.nextInt(new int[] {6, 9, 21}[place]);
            case "told": return place == 0 ? lot.nextInt(size) : lot.nextInt(7);
            case "given": return place == 0 ? lot.nextInt(size) : place == 1 ? 1 + lot.nextInt(9) : lot.nextInt(10);
            case "as": case "turns": return place == 0 ? lot.nextInt(size) : lot.nextInt(6);
            case "set": return place == 0 ? lot.nextInt(size) : place == 1 ? 1 + lot.nextInt(2) : lot.nextInt(args[1] == 1 ? 9 : 21);
            case "rent": return place == 0 ? lot.nextInt(8) : lot.nextInt(10);
            case "rule": return place == 0 ? lot.nextInt(3) : lot.nextInt(new int[] {101, 2, 9}[Math.floorMod(args[0], 3)]);
            case "deal": return 1 + lot.nextInt(3);
            case "seed": case "tell": return lot.nextInt();
            case "hours": return lot.nextInt(3) == 0 ? 100 : 1 + lot.nextInt(8);
            case "behind": return place == 0 ? lot.nextInt(101) : lot.nextInt(4 + size);
            case "best": return place == 0 ? lot.nextInt(size) : place == 1 ? 1 + lot.nextInt(40) : lot.nextInt(2);
            case "letting": return place == 0 ? 1 + lot.nextInt(4) : lot.nextInt(2);
            case "takes": return place == 0 ? lot.nextInt(6) : place == 1 ? lot.nextInt(8) : 1 + lot.nextInt(60);
            case "bestRent": case "mourned": return place == 0 ? 1 + lot.nextInt(60) : lot.nextInt(2);
            case "stood": return place == 0 ? lot.nextInt(4) : place == 1 ? lot.nextInt(size) : lot.nextInt(2);
            case "fine": return lot.nextInt(size);
            case "trim": return lot.nextInt(97);
            case "textTold": return place == 0 ? lot.nextInt(14) : lot.nextInt(2);
            case "sheet": return place == 0 ? lot.nextInt(4) : place == 1 ? lot.nextInt(9) / 4 - (lot.nextInt(6) == 0 ? 1 : 0) : lot.nextInt(25);
            case "mark": return place == 0 ? lot.nextInt(4) : place == 1 ? lot.nextInt(10) : markValue();
            case "copy": return place == 0 || place == 2 ? lot.nextInt(4) : lot.nextInt(8);
            case "lay": return place == 0 ? lot.nextInt(5) : place == 1 ? lot.nextInt(4) : lot.nextInt(4);
            case "item": case "rest": case "ask": return place == 0 ? lot.nextInt(5) : lot.nextInt(6);
            case "check": return 1 + lot.nextInt(3);
            default: return lot.nextInt(10);
        }
    }

    private int markValue() {
        int size = model.count(0);
        switch (lot.nextInt(4)) {
            case 0: return -1000000005;
            case 1: return size > 0 ? model.told(lot.nextInt(size), 3) : 0;
            case 2: return lot.nextInt(200001) - 100000;
            default: return lot.nextInt(40) - 20;
        }
    }

    /** Numbers wait that are the hours told, or nearly so. */
    private boolean checks() {
        if (lot.nextInt(3) > 0 && !call("keep")) {
            return false;
        }
        int n = lot.nextInt(10) == 0 ? 30 : 1 + lot.nextInt(4);
        boolean same = true;
        for (int i = 0; i < n && same; i++) {
            same = call("tell", model.behind(i + 1, 0)) && call("tell", model.behind(i + 1, 2) + (lot.nextInt(12) == 0 ? 1 : 0));
        }
        if (lot.nextInt(6) == 0) {
            same = same && call("tell", 0);
        }
        return same && call("check", lot.nextInt(6) == 0 ? n + 1 : n);
    }

    // ---- texts by lot

    private boolean readsText() {
        if (model.count(7) != 0 && lot.nextInt(4) > 0 && !call("trim", 0)) {
            return false;
        }
        int key = lot.nextInt(5) < 3 ? 0 : 1 + lot.nextInt(2);
        StringBuilder text = new StringBuilder(PlainModel.KEYS.get(key)).append(' ').append(expression(PlainModel.NAMES.get(key), lot.nextInt(6)));
        int harm = lot.nextInt(3) > 0 ? 0 : 1 + lot.nextInt(2);
        for (int i = 0; i < harm && text.length() > 0; i++) {
            int at = lot.nextInt(text.length());
            String signs = "acghps019 ()!|&<=>+-*/.A\n\u00e9";
            char sign = signs.charAt(lot.nextInt(signs.length()));
            switch (lot.nextInt(3)) {
                case 0 -> text.deleteCharAt(at);
                case 1 -> text.insert(at, sign);
                default -> text.setCharAt(at, sign);
            }
        }
        int length = Math.min(96, text.length());
        while (text.length() < 96) {
            text.append(' ');
        }
        boolean same = true;
        for (int i = 0; i < length && same; i += 12) {
            same = call("feed", word(text, i), word(text, i + 4), word(text, i + 8));
        }
        if (lot.nextInt(5) > 0) {
            same = same && call("trim", length);
        }
        return same && call("text");
    }

    private static int word(CharSequence s, int at) {
        return s.charAt(at) << 24 | s.charAt(at + 1) << 16 | s.charAt(at + 2) << 8 | s.charAt(at + 3);
    }

    private String expression(String names, int depth) {
        switch (depth <= 0 ? lot.nextInt(2) : lot.nextInt(9)) {
            case 0: return String.valueOf(lot.nextInt(lot.nextInt(3) == 0 ? 10000 : 12));
            case 1: case 2: return String.valueOf(names.charAt(lot.nextInt(names.length())));
            case 3: return "!" + (lot.nextInt(9) == 0 ? "!!!!!!!" : "") + expression(names, depth - 1);
            case 4: return lot.nextInt(9) == 0 ? "((((((((" + expression(names, depth - 1) + "))))))))" : "(" + expression(names, depth - 1) + ")";
            default:
                String blank = lot.nextInt(6) == 0 ? " " : "";
                return expression(names, depth - 1) + blank + "|&<=>+-*/+*".charAt(lot.nextInt(11)) + blank + expression(names, depth - 1);
        }
    }
}
