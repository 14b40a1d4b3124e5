import java.util.List;
import java.util.function.Predicate;

/** What the tests share: answers held against those that are due, texts on the tape, seeds by what they draw. */
final class Due {
    static final int BAD = -1000000001, NO = -1000000002, FULL = -1000000003, NONE = -1000000005,
            NOTHING = -1000000011, KIND = -1000000012, INDEX = -1000000013, SIZE = -1000000014;

    private int asked = 0;
    private int wrong = 0;
    private String said = "";

    /** What follows tests this promise. */
    void promise(int number) {
        said = "promise " + number;
    }

    /** What follows tests this sentence of the document's terms. */
    void sentence(String words) {
        said = "\"" + words + "\"";
    }

    void is(String call, int got, int want) {
        asked++;
        if (got != want) {
            wrong++;
            System.out.println(said + ": " + call + " answered " + got + ", due is " + want);
        }
    }

    void same(String what, List<String> got, List<String> want) {
        asked++;
        if (!got.equals(want)) {
            wrong++;
            int i = 0;
            while (i < got.size() && i < want.size() && got.get(i).equals(want.get(i))) {
                i++;
            }
            System.out.println(said + ": " + what + " there is '" + lineAt(got, i) + "', due is '" + lineAt(want, i) + "'");
        }
    }

    private static String lineAt(List<String> lines, int i) {
        return i < lines.size() ? lines.get(i) : "";
    }

    void end() {
        System.out.println(asked + " answers, " + wrong + " of them not as due");
        if (wrong > 0 || asked == 0) {
            System.exit(1);
        }
    }

    /** The text's answer when the tape holds just these bytes. */
    static int text(BeggarCorners x, String bytes) {
        tape(x, bytes);
        return x.text();
    }

    static void tape(BeggarCorners x, String bytes) {
        x.trim(0);
        StringBuilder s = new StringBuilder(bytes);
        while (s.length() % 12 != 0) {
            s.append('~');
        }
        for (int i = 0; i < s.length(); i += 12) {
            x.feed(four(s, i), four(s, i + 4), four(s, i + 8));
        }
        x.trim(bytes.length());
    }

    static int four(CharSequence s, int at) {
        return s.charAt(at) << 24 | s.charAt(at + 1) << 16 | s.charAt(at + 2) << 8 | s.charAt(at + 3);
    }

    /** The first z from 1 on whose next draws are as wanted: of an hour, 0 the rain, then four a passer. */
    static int seedWhere(Predicate<int[]> wanted) {
        int[] draws = new int[13];
        for (int seed = 1; seed < 100_000_000; seed++) {
            int z = seed;
            for (int i = 0; i < draws.length; i++) {
                z = z * 1103515245 + 12345;
                draws[i] = z >>> 8;
            }
            if (wanted.test(draws)) {
                return seed;
            }
        }
        throw new IllegalStateException("no such seed");
    }

    /** Whether a passer of the hour (from 0 on) goes from one corner to the other. */
    static boolean goes(int[] draws, int passer, int from, int to) {
        return draws[1 + 4 * passer] % 8 == from && draws[2 + 4 * passer] % 8 == to;
    }

    /** Whether a passer of the hour keeps to the corners from the one to the other. */
    static boolean within(int[] draws, int passer, int least, int most) {
        int from = draws[1 + 4 * passer] % 8;
        int to = draws[2 + 4 * passer] % 8;
        return Math.min(from, to) >= least && Math.max(from, to) <= most;
    }

    static int coins(int[] draws, int passer) {
        return 1 + draws[3 + 4 * passer] % 9;
    }
}
