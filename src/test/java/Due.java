import java.util.function.Predicate;

/** What the tests share: answers held against those that are due, texts on the tape, seeds by what they draw. */
final class Due {
    static final int BAD = -1000000001, NO = -1000000002, FULL = -1000000003, NONE = -1000000005,
            NOTHING = -1000000011, KIND = -1000000012, INDEX = -1000000013, SIZE = -1000000014;

    private int asked = 0;
    private int wrong = 0;
    private int promise = 0;

    /** What follows tests this promise. */
    void promise(int number) {
        promise = number;
    }

    void is(String call, int got, int want) {
        asked++;
        if (got != want) {
            wrong++;
            System.out.println("promise " + promise + ": " + call + " answered " + got + ", due is " + want);
        }
    }

    void end() {
        System.out.println(asked + " answers, " + wrong + " of them not as due");
        if (wrong > 0 || asked == 0) {
            System.exit(1);
        }
    }

    /** The text's answer when the tape holds just these bytes. */
    static int text(BeggarCorners x, String bytes) {
        tape(x, bytes);
        return x.text();
    }

    static void tape(BeggarCorners x, String bytes) {
        x.trim(0);
        StringBuilder s = new StringBuilder(bytes);
        while (s.length() % 12 != 0) {
            s.append('~');
        }
        for (int i = 0; i < s.length(); i += 12) {
            x.feed(four(s, i), four(s, i + 4), four(s, i + 8));
        }
        x.trim(bytes.length());
    }

    static int four(CharSequence s, int at) {
        return s.charAt(at) << 24 | s.charAt(at + 1) << 16 | s.charAt(at + 2) << 8 | s.charAt(at + 3);
    }

    /** The first z from 1 on whose next draws are as wanted: of an hour, 0 the rain, then four a passer. */
    static int seedWhere(Predicate<int[]> wanted) {
        int[] draws = new int[13];
        for (int seed = 1; seed < 100_000_000; seed++) {
            int z = seed;
            for (int i = 0; i < draws.length; i++) {
                z = z * 1103515245 + 12345;
                draws[i] = z >>> 8;
            }
            if (wanted.test(draws)) {
                return seed;
            }
        }
        throw new IllegalStateException("no such seed");
    }

    /** Whether a passer of the hour (from 0 on) goes from one corner to the other. */
    static boolean goes(int[] draws, int passer, int from, int to) {
        return draws[1 + 4 * passer] % 8 == from && draws[2 + 4 * passer] % 8 == to;
    }

    static int coins(int[] draws, int passer) {
        return 1 + draws[3 + 4 * passer] % 9;
    }
}
