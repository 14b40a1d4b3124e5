/** Promises 1 to 11: a new object, beggars and corners. */
public final class BeggarsTest {
    private static final Due due = new Due();

    public static void main(String[] args) {
        newObject();
        beggar();
        told();
        given();
        givenByText();
        as();
        turns();
        set();
        rent();
        rule();
        deal();
        seed();
        due.end();
    }

    private static BeggarCorners oneOfEach() {
        BeggarCorners x = new BeggarCorners();
        for (int kind = 0; kind < 6; kind++) {
            x.beggar(kind, kind, 10);
        }
        return x;
    }

    private static void newObject() {
        due.promise(1);
        BeggarCorners x = new BeggarCorners();
        int[] want = {0, 0, 20, 0, 8, 0, 0, 0, 1};
        for (int what = 0; what < want.length; what++) {
            due.is("count(" + what + ")", x.count(what), want[what]);
        }
        for (int what = 0; what < 5; what++) {
            due.is("guild(" + what + ")", x.guild(what), 0);
        }
        for (int corner = 0; corner < 8; corner++) {
            due.is("rent(" + corner + ", 0)", x.rent(corner, 0), 0);
        }
        for (int sheet = 0; sheet < 4; sheet++) {
            due.is("reads(" + sheet + ")", x.reads(sheet), Due.NOTHING);
        }
        for (int slot = 0; slot < 5; slot++) {
            due.is("item(" + slot + ", 0)", x.item(slot, 0), Due.NOTHING);
        }
        for (int key = 0; key < 3; key++) {
            due.is("why(" + key + ")", x.why(key), Due.NONE);
        }
        due.is("back()", x.back(), Due.NO);
        due.is("told(0, 0)", x.told(0, 0), Due.BAD);
    }

    private static void beggar() {
        due.promise(2);
        BeggarCorners x = new BeggarCorners();
        due.is("beggar(-1, 0, 0)", x.beggar(-1, 0, 0), Due.BAD);
        due.is("beggar(6, 0, 0)", x.beggar(6, 0, 0), Due.BAD);
        due.is("beggar(0, -1, 0)", x.beggar(0, -1, 0), Due.BAD);
        due.is("beggar(0, 9, 0)", x.beggar(0, 9, 0), Due.BAD);
        due.is("beggar(0, 0, -1)", x.beggar(0, 0, -1), Due.BAD);
        due.is("beggar(0, 0, 21)", x.beggar(0, 0, 21), Due.BAD);
        due.is("count(0)", x.count(0), 0);
        for (int i = 0; i < 8; i++) {
            due.is("beggar(5, 8, 20)", x.beggar(5, 8, 20), i);
        }
        due.is("the ninth", x.beggar(0, 0, 0), Due.FULL);
        due.is("the ninth, bad too", x.beggar(6, 0, 0), Due.BAD);
        due.is("count(0)", x.count(0), 8);
    }

    private static void told() {
        due.promise(3);
        BeggarCorners x = oneOfEach();
        int[] worths = {10, 16, 89, 32, 81, 5};
        for (int b = 0; b < 6; b++) {
            int[] want = {b, b, 10, 0, 0, 0, worths[b]};
            for (int what = 0; what < want.length; what++) {
                due.is("told(" + b + ", " + what + ")", x.told(b, what), want[what]);
            }
        }
        due.is("told(0, 7)", x.told(0, 7), Due.BAD);
        due.is("told(0, -1)", x.told(0, -1), Due.BAD);
        due.is("told(6, 0)", x.told(6, 0), Due.BAD);
        due.is("told(-1, 0)", x.told(-1, 0), Due.BAD);
        x.set(5, 1, 0);
        due.is("two on one corner: the one with the greater number", x.told(5, 5), 1);
        due.is("the one with the less number", x.told(0, 5), 0);
        x.set(5, 1, 1);
        due.is("two of other kinds on one corner", x.told(5, 5), 1);
        x.set(1, 1, 8);
        due.is("of other kinds 1 apart", x.told(5, 5), 0);
        x.turns(5, 0);
        due.is("of one kind 1 apart", x.told(5, 5), 1);
        x.set(0, 1, 3);
        due.is("of one kind 2 apart", x.told(5, 5), 0);
        x.set(0, 1, 8);
        x.set(5, 1, 8);
        due.is("of one kind at home", x.told(5, 5), 0);
        x.set(5, 1, 7);
        due.is("of one kind at home and on the last corner", x.told(5, 5), 0);
    }

    private static void given() {
        due.promise(4);
        BeggarCorners x = oneOfEach();
        int[] atFive = {2 + 2, 2 + 2 + 1, 2 * 4, 2 + 2 + 1, 2 * 4, 2 + 2 - 1};
        int[] atEight = {4, 4 + 2, 8, 4 + 2, 0, 3};
        int[] atFour = {4, 4 + 1, 4, 4 + 1, 4, 3};
        int[] withoutGuilt = {2, 2 + 1, 4, 2 + 1, 4, 0};
        for (int b = 0; b < 6; b++) {
            due.is("given(" + b + ", 5, 5, 5)", x.given(b, 5, 5, 5), atFive[b]);
            due.is("given(" + b + ", 5, 8, 5)", x.given(b, 5, 8, 5), atEight[b]);
            due.is("given(" + b + ", 5, 4, 5)", x.given(b, 5, 4, 5), atFour[b]);
            due.is("given(" + b + ", 5, 5, 0)", x.given(b, 5, 5, 0), withoutGuilt[b]);
        }
        due.is("singing at 9", x.given(3, 9, 9, 9), 9 + 2 + 3);
        due.is("proud at 3", x.given(5, 9, 0, 3), 3 + 2 - 1);
        due.is("proud at 2", x.given(5, 9, 0, 2), 0);
        x.set(5, 2, 0);
        due.is("proud, 0 at least", x.given(5, 1, 0, 8), 0);
        x.rule(1, 1);
        due.is("singing when wet", x.given(3, 5, 5, 5), 2);
        due.is("singing at 9 when wet", x.given(3, 9, 9, 9), 7);
        due.is("singing at 9 when wet, less guilt", x.given(3, 9, 9, 8), 6);
        due.is("blind when wet", x.given(1, 5, 5, 5), 5);
        int[][] wrong = {{6, 1, 0, 0}, {-1, 1, 0, 0}, {0, 0, 0, 0}, {0, 10, 0, 0}, {0, 1, -1, 0}, {0, 1, 10, 0}, {0, 1, 0, -1}, {0, 1, 0, 10}};
        for (int[] w : wrong) {
            due.is("given of a wrong one", x.given(w[0], w[1], w[2], w[3]), Due.BAD);
        }
        due.is("given changes no purse", x.guild(0), 0);
        due.is("given changes no hats", x.guild(2), 0);
    }

    private static void givenByText() {
        BeggarCorners x = oneOfEach();
        Due.text(x, "alms c*100+g*10+s-5*c*c*c");
        due.is("held to 99", x.given(0, 3, 0, 9), 99);
        due.is("a child twice what is held", x.given(2, 3, 5, 9), 198);
        due.is("a blind one more than what is held", x.given(1, 3, 9, 9), 102);
        due.is("held to 0", x.given(0, 9, 0, 0), 0);
        due.is("a blind one of 0", x.given(1, 9, 9, 0), 3);
        Due.text(x, "alms s");
        due.is("by skill", x.given(0, 3, 0, 9), 10);
        x.set(0, 2, 17);
        due.is("by another skill", x.given(0, 3, 0, 9), 17);
        Due.text(x, "alms g+c");
        due.is("by the text told last", x.given(0, 3, 0, 7), 10);
        for (int s = 0; s <= 20; s += 2) {
            everyGift(s);
        }
    }

    /** All that can be asked of a text for two skills, twice, as it may be remembered. */
    private static void everyGift(int least) {
        BeggarCorners x = new BeggarCorners();
        x.beggar(0, 0, 0);
        Due.text(x, "alms c*4+g*2+s*2");
        for (int time = 0; time < 2; time++) {
            for (int s = least; s <= Math.min(least + 1, 20); s++) {
                x.set(0, 2, s);
                for (int c = 1; c <= 9; c++) {
                    for (int g = 0; g <= 9; g++) {
                        due.is("SKILL " + s + ", given(0, " + c + ", 0, " + g + ")", x.given(0, c, 0, g), c * 4 + g * 2 + s * 2);
                    }
                }
            }
        }
    }

    private static void as() {
        due.promise(5);
        BeggarCorners x = oneOfEach();
        boolean[][] is = {{true, false, false, false, false, false}, {true, true, false, false, false, false},
            {true, false, true, false, false, false}, {true, true, false, true, false, false},
            {true, false, true, false, true, false}, {true, false, false, false, false, true}};
        for (int b = 0; b < 6; b++) {
            x.set(b, 2, b + 3);
            for (int kind = 0; kind < 6; kind++) {
                due.is("as(" + b + ", " + kind + ")", x.as(b, kind), is[b][kind] ? b + 3 : Due.KIND);
            }
        }
        due.is("as(6, 0)", x.as(6, 0), Due.BAD);
        due.is("as(-1, 0)", x.as(-1, 0), Due.BAD);
        due.is("as(0, 6)", x.as(0, 6), Due.BAD);
        due.is("as(0, -1)", x.as(0, -1), Due.BAD);
    }

    private static void turns() {
        due.promise(6);
        BeggarCorners x = oneOfEach();
        due.is("turns(3, 5)", x.turns(3, 5), 3);
        due.is("told(3, 0)", x.told(3, 0), 5);
        due.is("told(3, 6)", x.told(3, 6), 5);
        due.is("turns(3, 5)", x.turns(3, 5), 5);
        due.is("told(3, 1)", x.told(3, 1), 3);
        due.is("told(3, 2)", x.told(3, 2), 10);
        due.is("turns(3, 6)", x.turns(3, 6), Due.BAD);
        due.is("turns(3, -1)", x.turns(3, -1), Due.BAD);
        due.is("turns(6, 0)", x.turns(6, 0), Due.BAD);
        due.is("told(3, 0)", x.told(3, 0), 5);
    }

    private static void set() {
        due.promise(7);
        BeggarCorners x = oneOfEach();
        due.is("set(2, 1, 8)", x.set(2, 1, 8), 2);
        due.is("set(2, 1, 0)", x.set(2, 1, 0), 8);
        due.is("told(2, 1)", x.told(2, 1), 0);
        due.is("set(2, 2, 20)", x.set(2, 2, 20), 10);
        due.is("set(2, 2, 0)", x.set(2, 2, 0), 20);
        due.is("told(2, 2)", x.told(2, 2), 0);
        int[][] wrong = {{6, 1, 0}, {-1, 1, 0}, {2, 0, 0}, {2, 3, 0}, {2, 1, 9}, {2, 1, -1}, {2, 2, 21}, {2, 2, -1}};
        for (int[] w : wrong) {
            due.is("set of a wrong one", x.set(w[0], w[1], w[2]), Due.BAD);
        }
        due.is("told(2, 1)", x.told(2, 1), 0);
        due.is("told(2, 2)", x.told(2, 2), 0);
    }

    private static void rent() {
        due.promise(8);
        BeggarCorners x = new BeggarCorners();
        due.is("rent(7, 9)", x.rent(7, 9), 0);
        due.is("rent(7, 0)", x.rent(7, 0), 9);
        due.is("rent(0, 4)", x.rent(0, 4), 0);
        due.is("rent(7, 10)", x.rent(7, 10), Due.BAD);
        due.is("rent(7, -1)", x.rent(7, -1), Due.BAD);
        due.is("rent(8, 0)", x.rent(8, 0), Due.BAD);
        due.is("rent(-1, 0)", x.rent(-1, 0), Due.BAD);
        due.is("rent(7, 1)", x.rent(7, 1), 0);
        due.is("rent(0, 1)", x.rent(0, 1), 4);
    }

    private static void rule() {
        due.promise(9);
        BeggarCorners x = new BeggarCorners();
        int[] most = {100, 1, 8};
        int[] first = {20, 0, 8};
        for (int what = 0; what < 3; what++) {
            due.is("rule(" + what + ", most)", x.rule(what, most[what]), first[what]);
            due.is("rule(" + what + ", most and 1)", x.rule(what, most[what] + 1), Due.BAD);
            due.is("rule(" + what + ", -1)", x.rule(what, -1), Due.BAD);
            due.is("count of it", x.count(2 + what), most[what]);
            due.is("rule(" + what + ", 1)", x.rule(what, 1), most[what]);
            due.is("rule(" + what + ", 0)", x.rule(what, 0), 1);
            due.is("count of it", x.count(2 + what), 0);
        }
        due.is("rule(3, 0)", x.rule(3, 0), Due.BAD);
        due.is("rule(-1, 0)", x.rule(-1, 0), Due.BAD);
    }

    private static void deal() {
        due.promise(10);
        BeggarCorners x = new BeggarCorners();
        due.is("deal(0)", x.deal(0), Due.BAD);
        due.is("deal(9)", x.deal(9), Due.BAD);
        due.is("count(8)", x.count(8), 1);
        due.is("deal(3)", x.deal(3), 3);
        int z = 1;
        int[] by = {6, 9, 21};
        for (int b = 0; b < 3; b++) {
            for (int what = 0; what < 3; what++) {
                z = z * 1103515245 + 12345;
                due.is("told(" + b + ", " + what + ")", x.told(b, what), (z >>> 8) % by[what]);
            }
            due.is("purse", x.told(b, 3), 0);
            due.is("hats", x.told(b, 4), 0);
        }
        due.is("count(8)", x.count(8), z);
        due.is("deal(8)", x.deal(8), 5);
        for (int i = 0; i < 15; i++) {
            z = z * 1103515245 + 12345;
        }
        due.is("no draws for others", x.count(8), z);
        due.is("deal(1)", x.deal(1), 0);
        due.is("no draws without room", x.count(8), z);
        due.is("count(0)", x.count(0), 8);
    }

    private static void seed() {
        due.promise(11);
        BeggarCorners x = new BeggarCorners();
        due.is("seed(MIN)", x.seed(Integer.MIN_VALUE), 1);
        due.is("count(8)", x.count(8), Integer.MIN_VALUE);
        due.is("seed(7)", x.seed(7), Integer.MIN_VALUE);
        x.hours(1);
        int z = 7;
        for (int i = 0; i < 13; i++) {
            z = z * 1103515245 + 12345;
            if (i == 0 && (z >>> 8) % 100 < 20) {
                throw new IllegalStateException("choose a dry seed");
            }
        }
        due.is("count(8) behind a dry hour", x.count(8), z);
    }
}
