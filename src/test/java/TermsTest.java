/** The edges that the document's terms name: what is given, worth, against the law; an hour's draws; what is best; words of texts. */
public final class TermsTest {
    private static final Due due = new Due();
    private static final int BEGGAR = 0, BLIND = 1, CHILD = 2, SINGING = 3, FALSE = 4, PROUD = 5;

    public static void main(String[] args) {
        cuts();
        gifts();
        heldGifts();
        worths();
        law();
        sets();
        rain();
        rents();
        passers();
        coinsAndMinds();
        guilt();
        funerals();
        bestCorners();
        lettings();
        bestRents();
        mourners();
        stoods();
        words();
        numbers();
        nested();
        lastToldCounts();
        due.end();
    }

    private static BeggarCorners one(int kind, int corner, int skill) {
        BeggarCorners x = new BeggarCorners();
        x.beggar(kind, corner, skill);
        return x;
    }

    // ---- 1: corners

    private static void gift(int kind, int skill, int c, int m, int g, boolean wet, int want) {
        BeggarCorners x = one(kind, 0, skill);
        x.rule(1, wet ? 1 : 0);
        String of = "KIND " + kind + ", SKILL " + skill + (wet ? ", wet" : "");
        due.is(of + ": given(0, " + c + ", " + m + ", " + g + ")", x.given(0, c, m, g), want);
    }

    private static void cuts() {
        due.sentence("c times g / 9, and SKILL / 5");
        int[][] byGuilt = {{1, 0, 0}, {1, 8, 0}, {1, 9, 1}, {2, 4, 0}, {2, 5, 1}, {9, 1, 1}, {9, 8, 8}, {9, 9, 9}, {8, 8, 7}, {5, 7, 3}};
        for (int[] row : byGuilt) {
            gift(BEGGAR, 0, row[0], 0, row[1], false, row[2]);
        }
        int[][] bySkill = {{0, 0}, {4, 0}, {5, 1}, {9, 1}, {10, 2}, {14, 2}, {15, 3}, {19, 3}, {20, 4}};
        for (int[] row : bySkill) {
            gift(BEGGAR, row[0], 1, 0, 0, false, row[1]);
        }
    }

    private static void gifts() {
        due.sentence("BLIND: as BEGGAR, and m / 3");
        int[] thirds = {0, 0, 0, 1, 1, 1, 2, 2, 2, 3};
        for (int m = 0; m <= 9; m++) {
            gift(BLIND, 0, 9, m, 1, false, 1 + thirds[m]);
            gift(BLIND, 0, 9, m, 1, true, 1 + thirds[m]);
        }
        due.sentence("SINGING: as BLIND, but half of it (cut), if it is WET");
        for (int m = 0; m <= 9; m++) {
            gift(SINGING, 0, 9, m, 1, false, 1 + thirds[m]);
        }
        gift(SINGING, 0, 1, 0, 0, true, 0);
        gift(SINGING, 0, 1, 0, 9, true, 0);
        gift(SINGING, 0, 2, 0, 9, true, 1);
        gift(SINGING, 0, 2, 3, 9, true, 1);
        gift(SINGING, 0, 2, 6, 9, true, 2);
        gift(SINGING, 5, 1, 3, 0, true, 1);
        due.sentence("CHILD: twice as BEGGAR, if m is 5 or more, else as BEGGAR");
        for (int m = 0; m <= 9; m++) {
            gift(CHILD, 10, 5, m, 9, false, m < 5 ? 7 : 14);
        }
        due.sentence("FALSE: as CHILD, but nothing, if m is 8 or more");
        for (int m = 0; m <= 9; m++) {
            gift(FALSE, 10, 5, m, 9, false, m < 5 ? 7 : m < 8 ? 14 : 0);
        }
        due.sentence("PROUD: as BEGGAR, less 1 (0 at least), nothing if g is below 3");
        gift(PROUD, 0, 1, 9, 3, false, 0);
        gift(PROUD, 0, 3, 9, 3, false, 0);
        gift(PROUD, 0, 6, 9, 3, false, 1);
        gift(PROUD, 20, 9, 9, 3, false, 6);
        gift(PROUD, 20, 9, 9, 2, false, 0);
        gift(PROUD, 20, 9, 9, 0, false, 0);
        gift(PROUD, 5, 1, 9, 3, false, 0);
    }

    private static void heldGifts() {
        due.sentence("what alms gives, held within 0 .. 99");
        int[] at100 = {99, 99 + 3, 2 * 99, (99 + 3) / 2, 0, 98};
        int[] belowNone = {0, 3, 0, 1, 0, 0};
        for (int kind = 0; kind < 6; kind++) {
            BeggarCorners x = one(kind, 0, 0);
            x.rule(1, 1);
            Due.text(x, "alms 100-(g=5)*101");
            due.is("100 for KIND " + kind, x.given(0, 1, 9, 9), at100[kind]);
            due.is("-1 for KIND " + kind, x.given(0, 1, 9, 5), belowNone[kind]);
        }
    }

    private static void worths() {
        due.sentence("WORTH: BEGGAR: SKILL. BLIND: as BEGGAR, and 6. SINGING: twice as BLIND. CHILD: 99 less SKILL. FALSE: as CHILD, less 8. PROUD: 5");
        int[][] worths = {{0, 20}, {6, 26}, {99, 79}, {12, 52}, {91, 71}, {5, 5}};
        for (int kind = 0; kind < 6; kind++) {
            for (int end = 0; end < 2; end++) {
                BeggarCorners x = one(kind, 8, 20 * end);
                due.is("told(0, 6) of KIND " + kind, x.told(0, 6), worths[kind][end]);
                x.lay(0, 1, 0);
                due.is("ask(0, 0) of KIND " + kind, x.ask(0, 0), worths[kind][end]);
            }
        }
    }

    /** All that two can be: of one KIND or not, any way apart, at home or not. */
    private static void law() {
        due.sentence("of two of one KIND that are on CORNERS (not at home) that are 1 apart at most, the one with the greater number");
        for (int kinds = 0; kinds < 36; kinds++) {
            for (int corners = 0; corners < 81; corners++) {
                two(kinds / 6, corners / 9, kinds % 6, corners % 9);
            }
        }
    }

    private static void two(int kind, int corner, int otherKind, int otherCorner) {
        BeggarCorners x = one(kind, corner, 0);
        x.beggar(otherKind, otherCorner, 0);
        boolean bothOut = corner != 8 && otherCorner != 8;
        boolean nextToIt = corner == otherCorner + 1 || corner == otherCorner - 1;
        boolean against = bothOut && (corner == otherCorner || nextToIt && kind == otherKind);
        String of = "KIND " + kind + " at " + corner + " and KIND " + otherKind + " at " + otherCorner;
        due.is(of + ", the less number", x.told(0, 5), 0);
        due.is(of + ", the greater number", x.told(1, 5), against ? 1 : 0);
        due.is(of + ", as a set", x.guild(3), against ? 2 : 0);
    }

    private static void sets() {
        due.sentence("Sets of BEGGARS, of CORNERS are told by bits");
        BeggarCorners x = new BeggarCorners();
        for (int b = 0; b < 8; b++) {
            x.beggar(BLIND, b, 0);
        }
        due.is("all CORNERS", x.guild(4), 255);
        due.is("all but the first", x.guild(3), 254);
        for (int b = 0; b < 7; b++) {
            x.set(b, 1, 8);
        }
        due.is("the last CORNER", x.guild(4), 128);
        due.is("nobody", x.guild(3), 0);
        x.set(0, 1, 6);
        due.is("the last of them", x.guild(3), 128);
        x.set(7, 1, 0);
        due.is("the first CORNER, and another", x.guild(4), 1 | 1 << 6);
        due.is("nobody", x.guild(3), 0);
    }

    // ---- 2: an hour

    private static void rain() {
        due.sentence("A draw; if its rest by 100 is below RAIN, WET is turned over");
        int[][] rows = {{0, 0, 0}, {1, 0, 1}, {1, 1, 0}, {50, 49, 1}, {50, 50, 0}, {99, 98, 1}, {99, 99, 0}, {100, 99, 1}, {100, 0, 1}};
        for (int[] row : rows) {
            int seed = Due.seedWhere(d -> d[0] % 100 == row[1]);
            for (int wet = 0; wet < 2; wet++) {
                BeggarCorners x = new BeggarCorners();
                x.rule(0, row[0]);
                x.rule(1, wet);
                x.seed(seed);
                x.hours(1);
                int then = row[2] == 1 ? 1 - wet : wet;
                due.is("WET by a RAIN of " + row[0] + " and a rest of " + row[1], x.count(3), then);
                due.is("z behind passers by the weather then", x.count(8), behind(seed, then == 1 ? 9 : 13));
            }
        }
    }

    private static int behind(int seed, int draws) {
        int z = seed;
        for (int i = 0; i < draws; i++) {
            z = z * 1103515245 + 12345;
        }
        return z;
    }

    private static void rents() {
        due.sentence("Each on a CORNER pays its RENT into the CHEST (PURSE is so much less)");
        BeggarCorners x = new BeggarCorners();
        int[] stand = {0, 7, 8, 0};
        for (int corner : stand) {
            x.beggar(BEGGAR, corner, 0);
        }
        Due.text(x, "alms 0");
        for (int corner = 0; corner < 8; corner++) {
            x.rent(corner, 9 - corner);
        }
        x.hours(1);
        int[] pays = {9, 2, 0, 9};
        for (int b = 0; b < 4; b++) {
            due.is("PURSE of one at " + stand[b], x.told(b, 3), -pays[b]);
        }
        due.is("CHEST", x.guild(1), 20);
        due.is("PURSES", x.guild(0), -20);
        x.hours(99);
        due.is("PURSE far below 0", x.told(0, 3), -900);
        due.is("CHEST", x.guild(1), 2000);
    }

    /** A beggar on each corner, wet for good; who has 9 coins gives 1 and his guilt, others nothing. */
    private static BeggarCorners wholeRow() {
        BeggarCorners x = new BeggarCorners();
        for (int corner = 0; corner < 8; corner++) {
            x.beggar(corner % 2 == 0 ? BEGGAR : CHILD, corner, 0);
        }
        x.rule(0, 0);
        x.rule(1, 1);
        Due.text(x, "alms (c=9)*(g+1)");
        return x;
    }

    /** One passer has 9 coins and a mind below 5, the other one fewer coins. */
    private static boolean onlyFirstGives(int[] d) {
        return Due.coins(d, 0) == 9 && d[4] % 10 < 5 && Due.coins(d, 1) < 9;
    }

    private static void passers() {
        due.sentence("He passes all CORNERS from the one to the other, one behind the other (both of them, too)");
        int[] gives = {10, 7, 4, 1, 1, 1, 1, 1};
        for (int way = 0; way < 64; way++) {
            int from = way / 8;
            int to = way % 8;
            BeggarCorners x = wholeRow();
            x.seed(Due.seedWhere(d -> Due.goes(d, 0, from, to) && onlyFirstGives(d)));
            due.is("hats from " + from + " to " + to, x.hours(1), Math.abs(to - from) + 1);
            for (int corner = 0; corner < 8; corner++) {
                boolean passed = corner >= Math.min(from, to) && corner <= Math.max(from, to);
                int want = passed ? gives[Math.abs(corner - from)] : 0;
                due.is("PURSE at " + corner + " from " + from + " to " + to, x.told(corner, 3), want);
                due.is("HATS at " + corner + " from " + from + " to " + to, x.told(corner, 4), passed ? 1 : 0);
            }
        }
    }

    private static void coinsAndMinds() {
        due.sentence("c, 1 and that of one more by 9; m, that of one more by 10");
        int[] thirds = {0, 0, 0, 1, 1, 1, 2, 2, 2, 3};
        for (int m = 0; m <= 9; m++) {
            for (int c = 1; c <= 9; c++) {
                int mind = m;
                int coins = c;
                BeggarCorners x = one(BLIND, 7, 0);
                x.beggar(CHILD, 7, 0);
                x.beggar(FALSE, 7, 0);
                x.rule(0, 0);
                x.rule(1, 1);
                Due.text(x, "alms c");
                x.seed(Due.seedWhere(d -> Due.goes(d, 0, 7, 7) && Due.coins(d, 0) == coins && d[4] % 10 == mind
                        && Due.within(d, 1, 0, 6)));
                x.hours(1);
                int asChild = mind < 5 ? coins : 2 * coins;
                due.is("the BLIND one by c " + c + ", m " + m, x.told(0, 3), coins + thirds[mind]);
                due.is("the CHILD by c " + c + ", m " + m, x.told(1, 3), asChild);
                due.is("the FALSE one by c " + c + ", m " + m, x.told(2, 3), mind < 8 ? asChild : 0);
            }
        }
    }

    private static void guilt() {
        due.sentence("if that is above 0, its HATS are 1 more, and g is 3 less (0 at least)");
        BeggarCorners x = new BeggarCorners();
        for (int b = 0; b < 8; b++) {
            x.beggar(BEGGAR, 3, b == 2 ? 1 : 0);
        }
        Due.text(x, "alms (c=9)*(g+1)*(1-s)");
        x.rule(2, 3);
        x.seed(noneHasNine());
        due.is("hats at the funeral", x.hours(1), 7);
        int[] gives = {10, 7, 0, 4, 1, 1, 1, 1};
        for (int b = 0; b < 8; b++) {
            due.is("PURSE of " + b, x.told(b, 3), gives[b]);
            due.is("HATS of " + b, x.told(b, 4), gives[b] > 0 ? 1 : 0);
        }
    }

    /** No passer of the hour, wet or dry, has 9 coins. */
    private static int noneHasNine() {
        return Due.seedWhere(d -> Due.coins(d, 0) < 9 && Due.coins(d, 1) < 9 && Due.coins(d, 2) < 9);
    }

    private static void funerals() {
        due.sentence("(the one more of a FUNERAL: comes and goes to its CORNER, c is 9, m 9: no draws)");
        for (int funeral = 0; funeral <= 8; funeral++) {
            for (int wet = 0; wet < 2; wet++) {
                BeggarCorners x = new BeggarCorners();
                for (int corner = 0; corner < 8; corner++) {
                    x.beggar(BLIND, corner, 0);
                }
                Due.text(x, "alms (c=9)*9-3*(c<9)");
                x.rule(0, 0);
                x.rule(1, wet);
                x.rule(2, funeral);
                int seed = Due.seedWhere(d -> Due.coins(d, 0) < 9 && Due.coins(d, 1) < 9 && Due.coins(d, 2) < 9
                        && d[4] % 10 < 3 && d[8] % 10 < 3 && d[12] % 10 < 3);
                x.seed(seed);
                due.is("hats by a funeral at " + funeral, x.hours(1), funeral < 8 ? 1 : 0);
                for (int corner = 0; corner < 8; corner++) {
                    due.is("PURSE at " + corner + " by a funeral at " + funeral, x.told(corner, 3), corner == funeral ? 12 : 0);
                }
                due.is("z by a funeral at " + funeral, x.count(8), behind(seed, wet == 1 ? 9 : 13));
            }
        }
    }

    // ---- 3: what is only thought

    /** Nobody is given anything, and all corners but those named have a rent of 9. */
    private static BeggarCorners free(int... corners) {
        BeggarCorners x = new BeggarCorners();
        Due.text(x, "alms 0");
        for (int corner = 0; corner < 8; corner++) {
            x.rent(corner, 9);
        }
        for (int corner : corners) {
            x.rent(corner, 0);
        }
        return x;
    }

    private static void bestCorners() {
        due.sentence("the CORNER 0 .. 8 at which its PURSE behind n HOURS is greatest; of several the least");
        for (int corner = 0; corner < 8; corner++) {
            BeggarCorners x = free(corner);
            x.beggar(BEGGAR, 4, 0);
            due.is("free at " + corner, x.best(0, 1, 0), corner);
            due.is("PURSE", x.best(0, 40, 1), 0);
        }
        BeggarCorners x = free();
        x.beggar(BEGGAR, 4, 0);
        due.is("free at home alone", x.best(0, 40, 0), 8);
        due.is("PURSE", x.best(0, 40, 1), 0);
        x.hours(1);
        due.is("PURSE below 0 already", x.best(0, 1, 1), -9);
        x = free(0, 7);
        x.beggar(BEGGAR, 8, 0);
        due.is("free at 0, 7 and home", x.best(0, 1, 0), 0);
        x.rent(0, 1);
        due.is("free at 7 and home", x.best(0, 1, 0), 7);
    }

    private static void lettings() {
        due.sentence("a CORNER 0 .. 7 so that of all none is AGAINST THE LAW; told as digits to the base of 8 (BEGGAR 0 the highest); of several the least");
        BeggarCorners x = free(7);
        x.beggar(BEGGAR, 0, 0);
        due.is("one", x.letting(1, 0), 7);
        x.beggar(CHILD, 0, 0);
        x.rent(6, 1);
        due.is("two, of several the least", x.letting(4, 0), 6 * 8 + 7);
        due.is("PURSES", x.letting(4, 1), -4);
        x.turns(1, BEGGAR);
        due.is("two of one KIND", x.letting(1, 0), 0 * 8 + 7);
        due.is("PURSES", x.letting(1, 1), -9);
        x.turns(1, CHILD);
        x.rent(5, 2);
        x.beggar(PROUD, 0, 0);
        due.is("three", x.letting(1, 0), (5 * 8 + 6) * 8 + 7);
        x.beggar(FALSE, 8, 0);
        due.is("a fourth one at home", x.letting(1, 0), (5 * 8 + 6) * 8 + 7);
        x.set(3, 1, 7);
        x.rent(4, 3);
        due.is("a fourth one at 7", x.letting(1, 0), (4 * 8 + 5) * 8 + 6);
        x.turns(3, PROUD);
        due.is("of one KIND with the third one", x.letting(1, 0), (4 * 8 + 6) * 8 + 5);
        for (int corner = 0; corner < 7; corner++) {
            x.rent(corner, 0);
        }
        x.turns(1, BEGGAR);
        due.is("when all are free", x.letting(1, 0), (0 * 8 + 2) * 8 + 1);
        x.beggar(CHILD, 7, 0);
        due.is("two others against the law", x.letting(1, 0), Due.NONE);
        x.set(3, 1, 8);
        due.is("one of them at home", x.letting(1, 0), (0 * 8 + 2) * 8 + 1);
    }

    private static void bestRents() {
        due.sentence("the RENT 0 .. 9 of all CORNERS with which no PURSE is below 0 behind n HOURS, and CHEST is greatest; of several the least");
        for (int purse = 0; purse <= 19; purse++) {
            BeggarCorners x = one(BEGGAR, 3, 0);
            x.rule(2, 3);
            Due.text(x, "alms " + purse + "*(c=9)");
            x.seed(noneHasNine());
            x.hours(1);
            Due.text(x, "alms 0");
            due.is("PURSE", x.told(0, 3), purse);
            due.is("RENT with " + purse + " for 1", x.bestRent(1, 0), Math.min(9, purse));
            due.is("RENT with " + purse + " for 2", x.bestRent(2, 0), Math.min(9, purse / 2));
            due.is("CHEST with " + purse + " for 2", x.bestRent(2, 1), 2 * Math.min(9, purse / 2));
            x.set(0, 1, 8);
            due.is("RENT when nobody pays", x.bestRent(60, 0), 0);
        }
        BeggarCorners x = one(BEGGAR, 3, 0);
        Due.text(x, "alms 0");
        x.rent(3, 1);
        due.is("PURSE of 0 is not below 0", x.bestRent(60, 0), 0);
        x.hours(1);
        due.is("one of -1 is", x.bestRent(1, 0), Due.NONE);
        due.is("one of -1 is", x.bestRent(1, 1), Due.NONE);
        x.set(0, 1, 8);
        due.is("at home, too", x.bestRent(1, 0), Due.NONE);
    }

    private static void mourners() {
        due.sentence("the CORNER 0 .. 7 with whose FUNERAL PURSES of all behind n HOURS, together, are greatest; of several the least");
        for (int corner = 0; corner < 8; corner++) {
            BeggarCorners x = one(BEGGAR, corner, 0);
            x.beggar(BEGGAR, 7, 0);
            Due.text(x, "alms c=9");
            x.seed(noneHasNine());
            due.is("of " + corner + " and 7", x.mourned(1, 0), corner);
            due.is("PURSES", x.mourned(1, 1), corner == 7 ? 2 : 1);
            x.rule(2, 7);
            due.is("with a funeral at 7 now", x.mourned(1, 0), corner);
            due.is("FUNERAL stays", x.count(4), 7);
        }
    }

    private static void stoods() {
        due.sentence("the CORNER 0 .. 8 with which its PURSE behind k HOURS and places k that are numbers (k from 0 on) differ least (signs left out), together; of several the least");
        for (int corner = 0; corner <= 8; corner++) {
            BeggarCorners x = free();
            x.beggar(BEGGAR, 4, 0);
            for (int c = 0; c < 8; c++) {
                x.rent(c, 8 - c);
            }
            x.sheet(0, 1, 24);
            for (int k = 0; k < 24; k++) {
                x.mark(0, k, -(8 - corner) * k);
            }
            due.is("stood at " + corner, x.stood(0, 0, 0), corner);
            due.is("just so", x.stood(0, 0, 1), 0);
            x.mark(0, 0, 5);
            x.mark(0, 23, Due.NONE);
            due.is("5 off at once", x.stood(0, 0, 1), 5);
            x.mark(0, 0, -5);
            due.is("5 off to the other side", x.stood(0, 0, 1), 5);
            due.is("stood at " + corner, x.stood(0, 0, 0), corner);
        }
        BeggarCorners x = free(0, 1, 2);
        x.beggar(BEGGAR, 4, 0);
        x.sheet(0, 0, 2);
        due.is("of 0, 1, 2 and home the least", x.stood(0, 0, 0), 0);
        x.rent(0, 1);
        due.is("of 1, 2 and home the least", x.stood(0, 0, 0), 1);
        x.mark(0, 1, 1);
        due.is("of 1, 2 and home, all 1 off", x.stood(0, 0, 0), 1);
        x.sheet(0, 1, 1);
        x.mark(0, 0, -99999);
        due.is("k is 0: no HOUR", x.stood(0, 0, 0), 0);
        due.is("how far off", x.stood(0, 0, 1), 99999);
    }

    // ---- 4: texts

    private static void text(String bytes, int want) {
        due.is("'" + bytes + "'", Due.text(new BeggarCorners(), bytes), want);
    }

    private static void words() {
        due.sentence("A word is a row of letters a .. z, or of digits, as long as it goes; any other byte is a sign by itself");
        for (int sign = 0; sign < 256; sign++) {
            char s = (char) sign;
            boolean goesOn = s == ' ';
            boolean joins = "|&<=>+-*/".indexOf(s) >= 0;
            boolean begins = "!(".indexOf(s) >= 0;
            boolean digit = s >= '0' && s <= '9';
            boolean letter = s >= 'a' && s <= 'z';
            text("fee c" + s, goesOn ? 0 : joins ? -106 : letter ? -104 : -105);
            text("fee " + s, goesOn || begins ? -105 : digit || s == 'c' || s == 'h' ? 0 : -104);
            text("fee" + s + "c", goesOn ? 0 : begins ? s == '!' ? 0 : -105 : letter ? -100 : -103);
            text(s + "fee c", goesOn ? 0 : -100);
        }
        text("fee(c)", 0);
        text("fee!c", 0);
        text("fee c+h", 0);
        text("  fee  c  +  h  ", 0);
        text("fee1", -103);
        text("feec", -100);
        text("fee 1c", -105);
        text("fee c1", -105);
    }

    private static void numbers() {
        due.sentence("NUMBER (1 to 4 digits)");
        String digits = "";
        for (int many = 1; many <= 6; many++) {
            digits += many % 2 == 0 ? "0" : "9";
            BeggarCorners x = new BeggarCorners();
            due.is("fee " + digits, Due.text(x, "fee " + digits), many <= 4 ? 0 : -104);
            due.is("fee c+" + digits, Due.text(x, "fee c+" + digits), many <= 4 ? 1 : -106);
            if (many <= 4) {
                due.is("what it gives", x.fee(), Integer.parseInt(digits));
            }
        }
        text("fee 0000", 0);
        text("fee 00000", -104);
        text("fee " + "1".repeat(92), -104);
        text("fee 9999 9", -109);
    }

    private static void nested() {
        due.sentence("the ninth ( that would be open within others, the ninth ! likewise, each by itself");
        for (int many = 1; many <= 45; many++) {
            text("fee " + "(".repeat(many) + "c" + ")".repeat(many), many <= 8 ? 0 : -112);
            text("fee " + "!".repeat(many) + "c", many <= 8 ? 0 : -112);
        }
        text("fee " + "(".repeat(92), -112);
        text("fee " + "!".repeat(92), -112);
        text("fee " + "!(".repeat(8) + "c" + ")".repeat(8), 0);
        text("fee " + "(!".repeat(8) + "c" + ")".repeat(8), 0);
        text("fee " + "!(".repeat(9) + "c" + ")".repeat(9), -120);
        text("fee " + "(!".repeat(9) + "c" + ")".repeat(9), -120);
        text("fee " + "(".repeat(8) + "!".repeat(8) + "c" + ")".repeat(8), 0);
        text("fee " + "!".repeat(8) + "(".repeat(8) + "!c", -120);
        text("fee " + "(c)+".repeat(22) + "(c)", 0);
        text("fee " + "!c+".repeat(30) + "!c", 0);
        text("fee ((((((((c))))))))+((((((((c))))))))", 0);
        text("fee ((((((((c)+(c))))))))", 0);
        text("fee ((((((((c+(c", -114);
    }

    private static void lastToldCounts() {
        due.sentence("Of a KEY that TEXT counts that was told last");
        BeggarCorners x = new BeggarCorners();
        String[] keys = {"alms", "fee", "fine"};
        for (int text = 0; text < 14; text++) {
            due.is("text " + text, Due.text(x, keys[text % 3] + " " + text), text);
            for (int key = 0; key < 3; key++) {
                int last = text - Math.floorMod(text - key, 3);
                due.is("why(" + key + ") behind " + text, x.why(key), last < 0 ? Due.NONE : last);
            }
        }
        due.is("fee()", x.fee(), 13);
        Due.text(x, "fee 99");
        due.is("fee() behind one that found no room", x.fee(), 13);
    }
}
