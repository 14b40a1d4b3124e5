/** What wraps around: z, ints in texts, and what is told at the ends of an int. */
public final class WrapTest {
    private static final Due due = new Due();
    private static final int MIN = Integer.MIN_VALUE, MAX = Integer.MAX_VALUE;
    private static final int[] SEEDS = {MIN, MIN + 1, -1103515245, -77, -2, -1, 0, 1, 2, 77, 1103515245, MAX - 1, MAX};

    /** z as a number of 32 bits without a sign. */
    private static long z = 0;
    /** Whether z has been below 0 as an int, and whether it has not. */
    private static boolean wasBelow = false, wasAbove = false;

    public static void main(String[] args) {
        dealtByLot();
        hoursByLot();
        intsInTexts();
        heldAlms();
        tests();
        shorts();
        rests();
        ends();
        due.end();
    }

    private static void begin(int seed) {
        z = seed & 0xffffffffL;
    }

    private static int draw(int by) {
        z = (z * 1103515245L + 12345) & 0xffffffffL;
        wasBelow |= (int) z < 0;
        wasAbove |= (int) z >= 0;
        return (int) ((z >> 8) % by);
    }

    private static void bothSigns() {
        due.is("z has been below 0, and above", wasBelow && wasAbove ? 1 : 0, 1);
        wasBelow = false;
        wasAbove = false;
    }

    private static void dealtByLot() {
        due.sentence("z becomes z * 1103515245 + 12345 (an int); it gives z >>> 8");
        for (int seed : SEEDS) {
            BeggarCorners x = new BeggarCorners();
            x.seed(seed);
            due.is("deal(8)", x.deal(8), 8);
            begin(seed);
            for (int b = 0; b < 8; b++) {
                due.is("KIND of " + b + " by " + seed, x.told(b, 0), draw(6));
                due.is("CORNER of " + b + " by " + seed, x.told(b, 1), draw(9));
                due.is("SKILL of " + b + " by " + seed, x.told(b, 2), draw(21));
            }
            due.is("seed(0) behind it", x.seed(0), (int) z);
        }
        bothSigns();
    }

    private static void hoursByLot() {
        for (int seed : SEEDS) {
            BeggarCorners x = new BeggarCorners();
            x.rule(0, 50);
            x.seed(seed);
            begin(seed);
            boolean wet = false;
            for (int hour = 0; hour < 40; hour++) {
                x.hours(1);
                wet ^= draw(100) < 50;
                for (int i = 0; i < (wet ? 8 : 12); i++) {
                    draw(8);
                }
                due.is("WET in hour " + hour + " by " + seed, x.count(3), wet ? 1 : 0);
                due.is("z in hour " + hour + " by " + seed, x.count(8), (int) z);
            }
        }
        bothSigns();
    }

    private static void value(String e, int want) {
        BeggarCorners x = new BeggarCorners();
        due.is("fee " + e, Due.text(x, "fee " + e), 0);
        due.is("fee " + e, x.fee(), want);
    }

    private static void intsInTexts() {
        due.sentence("Ints wrap; / is 0 by 0");
        String least = "8192*8192*32";
        String greatest = "(" + least + "-1)";
        value(least, MIN);
        value(greatest, MAX);
        value(greatest + "+1", MIN);
        value(least + "-1", MAX);
        value("0-" + least, MIN);
        value(least + "*(0-1)", MIN);
        value(least + "/(0-1)", MIN);
        value(greatest + "*2", -2);
        value(greatest + "+" + greatest, -2);
        value(least + "+" + least, 0);
        value("8192*8192*64", 0);
        value(greatest + "*" + greatest, 1);
        value("9999*9999*9999", (int) (999700029999L));
        value(greatest + "/1", MAX);
        value(least + "/9999", MIN / 9999);
        value("1/0", 0);
        value("0/0", 0);
        value(least + "/0", 0);
        value("(0-7)/2", -3);
        value("7/(0-2)", -3);
        value("(0-7)/(0-2)", 3);
        value("(0-1)/2", 0);
    }

    /** What wraps is held within 0 .. 99 behind it. */
    private static void heldAlms() {
        due.sentence("what alms gives, held within 0 .. 99");
        int[][] given = {{0, 0}, {-1, 0}, {1, 1}, {98, 98}, {99, 99}, {100, 99}};
        for (int[] g : given) {
            almsGive(g[0] < 0 ? "0" + g[0] : "" + g[0], g[1]);
        }
        almsGive("8192*8192*32", 0);
        almsGive("8192*8192*32-1", 99);
        almsGive("8192*8192*32-c", 99);
        almsGive("8192*8192*32+c", 0);
        almsGive("8192*8192*32*c*2", 0);
        almsGive("1/(c-9)", 0);
    }

    private static void almsGive(String e, int want) {
        BeggarCorners x = new BeggarCorners();
        x.beggar(0, 3, 0);
        due.is("alms " + e, Due.text(x, "alms " + e), 0);
        due.is("given by " + e, x.given(0, 9, 0, 9), want);
        due.is("given by " + e + " again", x.given(0, 9, 0, 9), want);
        x.rule(2, 3);
        Due.text(x, "alms (c=9)*(" + e + ")");
        x.seed(Due.seedWhere(d -> Due.coins(d, 0) < 9 && Due.coins(d, 1) < 9 && Due.coins(d, 2) < 9));
        due.is("hats by " + e, x.hours(1), want > 0 ? 1 : 0);
        due.is("PURSE by " + e, x.told(0, 3), want);
    }

    /** Tests compare what wraps as it is then: they don't take one from the other. */
    private static void tests() {
        due.sentence("tests, & | ! give 1 or 0 (what is not 0 is true; both sides are worked out)");
        String least = "8192*8192*32";
        value(least + "<0", 1);
        value(least + "<" + least + "-1", 1);
        value(least + ">" + least + "-1", 0);
        value(least + "-1>" + least, 1);
        value(least + "=0-" + least, 1);
        value(least + "=" + least + "-1", 0);
        value("!" + "(" + least + ")", 0);
        value("!(8192*8192*64)", 1);
        value("8192*8192*64|0", 0);
        value(least + "|0", 1);
        value(least + "&(0-1)", 1);
        value("0&1/0", 0);
        value("1|1/0", 1);
    }

    private static void shorts() {
        due.sentence("of shorts its lowest 16 bits");
        int[][] marks = {{32767, 32767}, {32768, -32768}, {-32768, -32768}, {-32769, 32767}, {65535, -1}, {65536, 0},
            {-65536, 0}, {-65537, -1}, {MAX, -1}, {MIN, 0}, {MIN + 5, 5}, {Due.NONE + 1, (short) (Due.NONE + 1)}};
        for (int[] m : marks) {
            BeggarCorners x = new BeggarCorners();
            x.sheet(0, 0, 1);
            due.is("mark(0, 0, " + m[0] + ")", x.mark(0, 0, m[0]), 1);
            x.lay(0, 2, 0);
            due.is("what it is of " + m[0], x.item(0, 0), m[1]);
        }
    }

    private static void rests() {
        due.sentence("The rest of the number in a SLOT by n");
        int[][] rows = {{MIN, -1, 0}, {MIN, 1, 0}, {MIN, MIN, 0}, {MIN, MAX, -1}, {MAX, MIN, MAX}, {MAX, MAX, 0}, {MAX, -1, 0},
            {-1, MIN, -1}, {-1, MAX, -1}, {0, MIN, 0}, {7, -4, 3}, {-7, 4, -3}, {-7, -4, -3}, {MIN, 0, Due.NO}, {0, 0, Due.NO}};
        BeggarCorners x = new BeggarCorners();
        for (int[] row : rows) {
            x.lay(0, 3, row[0]);
            due.is("rest of " + row[0] + " by " + row[1], x.rest(0, row[1]), row[2]);
        }
    }

    private static void ends() {
        due.sentence("All numbers are whole");
        BeggarCorners x = new BeggarCorners();
        x.keep();
        due.is("seed(MAX)", x.seed(MAX), 1);
        due.is("seed(MIN)", x.seed(MIN), MAX);
        due.is("z", x.count(8), MIN);
        due.is("tell(MIN)", x.tell(MIN), 1);
        due.is("tell(MAX)", x.tell(MAX), 2);
        due.is("neither is 0", x.check(1), 1);
        x.tell(0);
        x.tell(MIN);
        due.is("the other is not 0", x.check(1), 2);
        x.sheet(0, 1, 5);
        x.sheet(1, 1, 5);
        int[][] places = {{MAX, 0, MAX}, {0, MAX, MAX}, {1, 1, MAX}, {MIN, 0, MIN}, {0, MIN, 1}, {MAX, 0, 1}, {-5, 0, 5}, {0, -5, 5},
            {MAX, MAX, 2}, {5, 5, MIN}, {MIN, MIN, MAX}};
        for (int[] p : places) {
            due.is("copy(0, " + p[0] + ", 1, " + p[1] + ", " + p[2] + ")", x.copy(0, p[0], 1, p[1], p[2]), Due.INDEX);
        }
        x.feed(MIN, MAX, -1);
        due.is("bytes of the ends", x.count(7), 12);
        due.is("which are signs", x.text(), -100);
    }
}
