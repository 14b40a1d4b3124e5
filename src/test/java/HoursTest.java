/** Promises 12 to 22: hours, and what will be. */
public final class HoursTest {
    private static final Due due = new Due();
    /** When wet: the first passer goes down from 5 to 2 with 9 coins, the second stays at 7 with 5 at most. */
    private static final int DOWN = Due.seedWhere(d -> Due.goes(d, 0, 5, 2) && Due.coins(d, 0) == 9
            && Due.goes(d, 1, 7, 7) && Due.coins(d, 1) <= 5);
    /** The same, but up from 2 to 5. */
    private static final int UP = Due.seedWhere(d -> Due.goes(d, 0, 2, 5) && Due.coins(d, 0) == 9
            && Due.goes(d, 1, 7, 7) && Due.coins(d, 1) <= 5);
    /** The first two passers stay at 6 and 7; the third, if it is dry, goes from 4 to 0. */
    private static final int ELSEWHERE = Due.seedWhere(d -> Due.goes(d, 0, 7, 7) && Due.goes(d, 1, 6, 6) && Due.goes(d, 2, 4, 0));

    public static void main(String[] args) {
        hours();
        weather();
        funeral();
        lastHour();
        guild();
        behind();
        best();
        letting();
        takes();
        bestRent();
        mourned();
        stood();
        fee();
        fine();
        nothingChanges();
        due.end();
    }

    /** Beggars at 5, 4, 2 and home, without skill; wet for good. */
    private static BeggarCorners row() {
        BeggarCorners x = new BeggarCorners();
        x.beggar(0, 5, 0);
        x.beggar(0, 4, 0);
        x.beggar(0, 2, 0);
        x.beggar(0, 8, 0);
        x.rule(0, 0);
        x.rule(1, 1);
        return x;
    }

    private static void hours() {
        due.promise(12);
        BeggarCorners x = row();
        x.seed(DOWN);
        due.is("hours(1) down", x.hours(1), 3);
        due.is("the first he meets", x.told(0, 3), 9);
        due.is("the second, by a guilt of 6", x.told(1, 3), 6);
        due.is("the third, by a guilt of 3", x.told(2, 3), 3);
        due.is("one at home", x.told(3, 3), 0);
        due.is("hats of the first", x.told(0, 4), 1);
        due.is("hats of one at home", x.told(3, 4), 0);
        due.is("THE HOUR", x.count(1), 1);
        x.seed(UP);
        due.is("hours(1) up", x.hours(1), 3);
        due.is("the last he meets", x.told(0, 3), 9 + 3);
        due.is("the second", x.told(1, 3), 6 + 6);
        due.is("the first", x.told(2, 3), 3 + 9);
        x = row();
        x.set(1, 1, 5);
        x.set(3, 1, 3);
        x.set(2, 1, 2);
        x.turns(3, 5);
        x.seed(DOWN);
        due.is("two on one corner by numbers", x.hours(1), 3);
        due.is("the first of them", x.told(0, 3), 9);
        due.is("the second of them", x.told(1, 3), 6);
        due.is("the proud one at a guilt of 3", x.told(3, 3), 2);
        due.is("at a guilt of 0, nothing", x.told(2, 3), 0);
        nothingSpendsNoGuilt();
        oneCoinIsSomething();
        due.is("hours(0)", x.hours(0), Due.BAD);
        due.is("hours(101)", x.hours(101), Due.BAD);
        due.is("THE HOUR", x.count(1), 1);
        due.is("hours(100) of nobody", new BeggarCorners().hours(100), 0);
    }

    private static void nothingSpendsNoGuilt() {
        BeggarCorners x = row();
        x.turns(0, 4);
        Due.text(x, "alms (s>0)*g");
        x.set(1, 2, 1);
        x.set(2, 2, 1);
        x.seed(DOWN);
        due.is("who is given nothing has no hat", x.hours(1), 2);
        due.is("and spends no guilt", x.told(1, 3), 9);
        due.is("as the next one does", x.told(2, 3), 6);
        due.is("its hats", x.told(0, 4), 0);
    }

    private static void oneCoinIsSomething() {
        BeggarCorners x = row();
        Due.text(x, "alms 1+(g<9)");
        x.seed(DOWN);
        due.is("who is given 1 has a hat", x.hours(1), 3);
        due.is("and spends guilt", x.told(1, 3), 2);
    }

    private static void weather() {
        BeggarCorners x = row();
        x.rule(0, 100);
        for (int i = 0; i < 4; i++) {
            x.hours(1);
            due.is("rain of 100 turns it over each hour", x.count(3), i % 2);
        }
        int atFifty = Due.seedWhere(d -> d[0] % 100 == 50);
        x = new BeggarCorners();
        x.rule(0, 50);
        x.seed(atFifty);
        x.hours(1);
        due.is("a rest of 50 is not below a rain of 50", x.count(3), 0);
        x.rule(0, 51);
        x.seed(atFifty);
        x.hours(1);
        due.is("but below one of 51", x.count(3), 1);
        int z = atFifty;
        for (int i = 0; i < 9; i++) {
            z = z * 1103515245 + 12345;
        }
        due.is("two passers when wet: nine draws", x.count(8), z);
        x = row();
        x.seed(ELSEWHERE);
        due.is("no third passer when wet", x.hours(1), 0);
        x.rule(1, 0);
        x.seed(ELSEWHERE);
        due.is("a third passer when dry", x.hours(1), 2);
        due.is("the first he meets", x.told(1, 3) > 0 ? 1 : 0, 1);
    }

    private static void funeral() {
        BeggarCorners x = row();
        x.rule(2, 4);
        x.turns(1, 1);
        x.seed(ELSEWHERE);
        due.is("one more at the funeral", x.hours(1), 1);
        due.is("with 9 coins and mind 9", x.told(1, 3), 9 + 3);
        x.set(0, 1, 4);
        x.seed(ELSEWHERE);
        due.is("two at the funeral", x.hours(1), 2);
        due.is("the first by all his guilt", x.told(0, 3), 9);
        due.is("the second by less", x.told(1, 3), 12 + 6 + 3);
    }

    private static void lastHour() {
        BeggarCorners x = row();
        for (int i = 0; i < 99; i++) {
            x.hours(100);
        }
        due.is("THE HOUR", x.count(1), 9900);
        x.hours(98);
        x.rent(5, 3);
        int chest = x.guild(1);
        x.hours(100);
        due.is("no more than up to 9999", x.count(1), 9999);
        due.is("just one hour's rent", x.guild(1) - chest, 3);
        int z = x.count(8);
        due.is("hours(5) at the last hour", x.hours(5), 0);
        due.is("z at the last hour", x.count(8), z);
        due.is("what is thought has no such bound", x.behind(5, 1), chest + 3 + 15);
    }

    private static void guild() {
        due.promise(13);
        BeggarCorners x = row();
        x.rent(5, 2);
        x.rent(7, 9);
        x.seed(DOWN);
        x.hours(1);
        due.is("guild(0)", x.guild(0), 18 - 2);
        due.is("guild(1)", x.guild(1), 2);
        due.is("guild(2)", x.guild(2), 3);
        due.is("guild(3)", x.guild(3), 2);
        due.is("guild(4)", x.guild(4), 1 << 5 | 1 << 4 | 1 << 2);
        x.set(2, 1, 4);
        x.set(3, 1, 3);
        due.is("guild(3)", x.guild(3), 2 | 4 | 8);
        due.is("guild(4)", x.guild(4), 1 << 5 | 1 << 4 | 1 << 3);
        due.is("guild(5)", x.guild(5), Due.BAD);
        due.is("guild(-1)", x.guild(-1), Due.BAD);
    }

    private static void behind() {
        due.promise(14);
        BeggarCorners x = row();
        x.rent(5, 9);
        x.rent(4, 9);
        x.seed(DOWN);
        due.is("behind(0, 6)", x.behind(0, 6), 0);
        due.is("behind(0, 0)", x.behind(0, 0), 0);
        due.is("behind(1, 0)", x.behind(1, 0), 0);
        due.is("behind(1, 1)", x.behind(1, 1), 18);
        due.is("behind(1, 2)", x.behind(1, 2), 3);
        due.is("behind(1, 3)", x.behind(1, 3), 0);
        due.is("behind(1, 4)", x.behind(1, 4), -3);
        due.is("behind(1, 5)", x.behind(1, 5), 3);
        due.is("behind(1, 6)", x.behind(1, 6), 0);
        due.is("behind(1, 7)", x.behind(1, 7), Due.BAD);
        due.is("behind(1, -1)", x.behind(1, -1), Due.BAD);
        due.is("behind(-1, 0)", x.behind(-1, 0), Due.BAD);
        due.is("behind(101, 0)", x.behind(101, 0), Due.BAD);
        int then = x.behind(100, 0);
        x.hours(100);
        due.is("behind(0, 0) then", x.behind(0, 0), then);
        due.is("guild(0) then", x.guild(0), then);
    }

    private static void best() {
        due.promise(15);
        BeggarCorners x = row();
        x.seed(DOWN);
        due.is("best behind the first one, on his corner", x.best(2, 1, 0), 5);
        due.is("its purse there", x.best(2, 1, 1), 6);
        due.is("best ahead of the second one, on his corner", x.best(0, 1, 0), 4);
        due.is("its purse there", x.best(0, 1, 1), 9);
        x = new BeggarCorners();
        x.beggar(0, 3, 0);
        Due.text(x, "alms 0");
        due.is("of several the least", x.best(0, 40, 0), 0);
        due.is("its purse", x.best(0, 40, 1), 0);
        for (int corner = 0; corner < 8; corner++) {
            x.rent(corner, 5);
        }
        due.is("home, where there is no rent", x.best(0, 40, 0), 8);
        due.is("its purse", x.best(0, 40, 1), 0);
        x.rent(6, 0);
        due.is("the corner without rent", x.best(0, 40, 0), 6);
        x.rent(2, 0);
        due.is("the least of them", x.best(0, 1, 0), 2);
        due.is("best(1, 1, 0)", x.best(1, 1, 0), Due.BAD);
        due.is("best(-1, 1, 0)", x.best(-1, 1, 0), Due.BAD);
        due.is("best(0, 0, 0)", x.best(0, 0, 0), Due.BAD);
        due.is("best(0, 41, 0)", x.best(0, 41, 0), Due.BAD);
        due.is("best(0, 1, 2)", x.best(0, 1, 2), Due.BAD);
        due.is("best(0, 1, -1)", x.best(0, 1, -1), Due.BAD);
        due.is("it stays where it is", x.told(0, 1), 3);
    }

    private static void letting() {
        due.promise(16);
        BeggarCorners x = new BeggarCorners();
        due.is("of no beggars", x.letting(1, 0), Due.NONE);
        due.is("of no beggars", x.letting(1, 1), Due.NONE);
        due.is("letting(0, 0)", x.letting(0, 0), Due.BAD);
        due.is("letting(5, 0)", x.letting(5, 0), Due.BAD);
        due.is("letting(1, 2)", x.letting(1, 2), Due.BAD);
        due.is("letting(1, -1)", x.letting(1, -1), Due.BAD);
        Due.text(x, "alms 0");
        x.beggar(0, 8, 0);
        due.is("one, all alike", x.letting(4, 0), 0);
        x.rent(0, 1);
        x.rent(1, 1);
        due.is("one, to a corner without rent", x.letting(4, 0), 2);
        due.is("purses", x.letting(4, 1), 0);
        x.beggar(0, 8, 0);
        due.is("two of one kind, two apart", x.letting(4, 0), 2 * 8 + 4);
        x.turns(1, 5);
        due.is("two of two kinds", x.letting(4, 0), 2 * 8 + 3);
        x.beggar(5, 3, 0);
        due.is("three", x.letting(4, 0), (2 * 8 + 3) * 8 + 5);
        x.beggar(2, 3, 0);
        due.is("a fourth one stays where it is", x.letting(4, 0), (2 * 8 + 4) * 8 + 6);
        for (int corner = 2; corner < 8; corner++) {
            x.rent(corner, 9);
        }
        due.is("purses when all pay", x.letting(4, 1), 4 * (-1 - 1 - 9 - 9));
        x.beggar(4, 3, 0);
        due.is("no way when others stand against the law", x.letting(4, 0), Due.NONE);
        due.is("no way when others stand against the law", x.letting(4, 1), Due.NONE);
        due.is("BAD ahead of NONE", x.letting(5, 1), Due.BAD);
        due.is("they stay where they are", x.guild(4), 1 << 3);
    }

    private static void takes() {
        due.promise(17);
        BeggarCorners x = row();
        x.seed(DOWN);
        due.is("ahead of nobody", x.takes(0, 6, 1), 0);
        due.is("on the first one's corner, behind him", x.takes(0, 5, 1), 3 + 3);
        due.is("between the second and the third", x.takes(0, 3, 1), 3);
        due.is("a proud one is given, too, at 3", x.takes(5, 3, 1), 3);
        due.is("behind all", x.takes(0, 2, 1), 0);
        x.seed(UP);
        due.is("at the other end, behind him", x.takes(0, 2, 1), 3 + 3);
        Due.text(x, "alms (s=10)*g");
        due.is("its skill is 10", x.takes(0, 3, 1), 0);
        Due.text(x, "alms g*(1-(s=10))");
        due.is("who is given nothing takes nothing", x.takes(0, 3, 1), 0);
        x = row();
        for (int i = 0; i < 3; i++) {
            x.beggar(1, 8, 0);
        }
        x.beggar(0, 5, 0);
        x.seed(DOWN);
        due.is("a ninth one, behind two on the first corner", x.takes(0, 5, 1), 3);
        due.is("there are eight", x.count(0), 8);
        int[][] wrong = {{-1, 0, 1}, {6, 0, 1}, {0, -1, 1}, {0, 8, 1}, {0, 0, 0}, {0, 0, 61}};
        for (int[] w : wrong) {
            due.is("takes of a wrong one", x.takes(w[0], w[1], w[2]), Due.BAD);
        }
        due.is("takes of nobody", new BeggarCorners().takes(0, 0, 60), 0);
    }

    private static void bestRent() {
        due.promise(18);
        BeggarCorners x = row();
        x.seed(DOWN);
        due.is("the third has 3", x.bestRent(1, 0), 3);
        due.is("three pay 3", x.bestRent(1, 1), 9);
        x.set(2, 1, 8);
        x.rent(5, 9);
        due.is("the second has 6", x.bestRent(1, 0), 6);
        due.is("two pay 6", x.bestRent(1, 1), 12);
        Due.text(x, "alms 0");
        due.is("nobody has anything", x.bestRent(60, 0), 0);
        due.is("CHEST", x.bestRent(60, 1), 0);
        x.hours(1);
        due.is("one is below 0 already", x.bestRent(60, 0), Due.NONE);
        due.is("one is below 0 already", x.bestRent(60, 1), Due.NONE);
        due.is("RENT stays", x.rent(5, 9), 9);
        x.set(0, 1, 8);
        due.is("one at home is below 0", x.bestRent(1, 0), Due.NONE);
        x = row();
        Due.text(x, "alms 99");
        x.seed(DOWN);
        due.is("the greatest rent", x.bestRent(1, 0), 9);
        due.is("three pay 9", x.bestRent(1, 1), 27);
        due.is("bestRent(0, 0)", x.bestRent(0, 0), Due.BAD);
        due.is("bestRent(61, 0)", x.bestRent(61, 0), Due.BAD);
        due.is("bestRent(1, 2)", x.bestRent(1, 2), Due.BAD);
        due.is("bestRent(1, -1)", x.bestRent(1, -1), Due.BAD);
        due.is("of nobody the least", new BeggarCorners().bestRent(60, 0), 0);
    }

    private static void mourned() {
        due.promise(19);
        BeggarCorners x = row();
        Due.text(x, "alms (c=9)*(g=9)*s");
        x.set(2, 2, 20);
        x.set(1, 2, 19);
        x.seed(ELSEWHERE);
        due.is("where the third one stands", x.mourned(1, 0), 2);
        due.is("PURSES", x.mourned(1, 1), 20);
        x.set(1, 2, 20);
        due.is("of several the least", x.mourned(1, 0), 2);
        x.set(2, 2, 19);
        due.is("where the second one stands", x.mourned(1, 0), 4);
        x.set(1, 1, 0);
        due.is("at the first corner", x.mourned(1, 0), 0);
        x.set(1, 1, 7);
        Due.text(x, "alms 5*(c=9)*(g=9)*(s=20)");
        due.is("at the last corner", x.mourned(1, 0), 7);
        due.is("PURSES", x.mourned(1, 1), 5);
        Due.text(x, "alms (c=9)*(g=9)*s");
        x.set(1, 1, 4);
        x.rule(2, 0);
        due.is("in the place of another funeral", x.mourned(1, 1), 20);
        due.is("which stays", x.count(4), 0);
        due.is("mourned(0, 0)", x.mourned(0, 0), Due.BAD);
        due.is("mourned(61, 0)", x.mourned(61, 0), Due.BAD);
        due.is("mourned(1, 2)", x.mourned(1, 2), Due.BAD);
        due.is("mourned(1, -1)", x.mourned(1, -1), Due.BAD);
        due.is("of nobody", new BeggarCorners().mourned(60, 0), 0);
    }

    private static void stood() {
        due.promise(20);
        BeggarCorners x = row();
        x.seed(DOWN);
        due.is("stood(0, 0, 0)", x.stood(0, 0, 0), Due.NOTHING);
        due.is("stood(0, 4, 0)", x.stood(0, 4, 0), Due.BAD);
        due.is("stood(0, -1, 0)", x.stood(0, -1, 0), Due.BAD);
        due.is("stood(4, 0, 0)", x.stood(4, 0, 0), Due.BAD);
        due.is("stood(-1, 0, 0)", x.stood(-1, 0, 0), Due.BAD);
        due.is("stood(0, 0, 2)", x.stood(0, 0, 2), Due.BAD);
        due.is("stood(0, 0, -1)", x.stood(0, 0, -1), Due.BAD);
        x.sheet(0, 1, 2);
        x.mark(0, 0, 0);
        x.mark(0, 1, 6);
        due.is("the third one has 6 behind the first one, at 5", x.stood(0, 2, 0), 5);
        due.is("just so", x.stood(0, 2, 1), 0);
        x.mark(0, 1, 3);
        due.is("it has 3 at 2, 3 and 4: the least", x.stood(0, 2, 0), 2);
        x.mark(0, 1, 0);
        due.is("nothing: where nobody comes", x.stood(0, 2, 0), 0);
        due.is("no difference", x.stood(0, 2, 1), 0);
        x.mark(0, 0, -7);
        due.is("now there are 7", x.stood(0, 2, 1), 7);
        x.mark(0, 0, 7);
        due.is("signs left out", x.stood(0, 2, 1), 7);
        x.mark(0, 0, Due.NONE);
        due.is("no number does not count", x.stood(0, 2, 1), 0);
        x.mark(0, 1, 9);
        due.is("the first one gets 9 at 4 and at 5: the least", x.stood(0, 0, 0), 4);
        due.is("just so", x.stood(0, 0, 1), 0);
        x.sheet(1, 0, 0);
        due.is("a row of no places", x.stood(1, 0, 0), 0);
        due.is("a row of no places", x.stood(1, 0, 1), 0);
        for (int corner = 0; corner < 8; corner++) {
            x.rent(corner, 9);
        }
        Due.text(x, "alms 0");
        x.sheet(1, 1, 5);
        due.is("nothing ever: at home", x.stood(1, 0, 0), 8);
        due.is("nothing ever: at home", x.stood(1, 0, 1), 0);
        due.is("they stay where they are", x.told(2, 1), 2);
    }

    private static void fee() {
        due.promise(21);
        BeggarCorners x = row();
        x.rent(5, 7);
        x.hours(3);
        due.is("CHEST without a text", x.fee(), 21);
        Due.text(x, "fee h*100+c");
        due.is("by a text", x.fee(), 321);
        x.hours(1);
        due.is("an hour later", x.fee(), 428);
        Due.text(x, "fine 5");
        due.is("a text of another key", x.fee(), 428);
    }

    private static void fine() {
        due.promise(22);
        BeggarCorners x = row();
        x.seed(DOWN);
        x.hours(1);
        due.is("PURSE without a text", x.fine(1), 6);
        Due.text(x, "fine p*10+h");
        due.is("by a text", x.fine(1), 61);
        due.is("of another one", x.fine(0), 91);
        due.is("of one at home", x.fine(3), 0);
        due.is("fine(4)", x.fine(4), Due.BAD);
        due.is("fine(-1)", x.fine(-1), Due.BAD);
    }

    private static void nothingChanges() {
        due.promise(14);
        BeggarCorners x = row();
        x.sheet(0, 0, 5);
        x.hours(7);
        x.rent(4, 3);
        int[] before = all(x);
        x.behind(50, 0);
        x.best(1, 20, 0);
        x.letting(2, 0);
        x.takes(2, 3, 20);
        x.bestRent(20, 0);
        x.mourned(20, 0);
        x.stood(0, 1, 0);
        x.fee();
        x.fine(0);
        int[] then = all(x);
        for (int i = 0; i < before.length; i++) {
            due.is("what was only thought, " + i, then[i], before[i]);
        }
    }

    private static int[] all(BeggarCorners x) {
        int[] all = new int[9 + 5 + 4 * 5];
        int n = 0;
        for (int what = 0; what < 9; what++) {
            all[n++] = x.count(what);
        }
        for (int what = 0; what < 5; what++) {
            all[n++] = x.guild(what);
        }
        for (int b = 0; b < 4; b++) {
            for (int what = 0; what < 5; what++) {
                all[n++] = x.told(b, what);
            }
        }
        return all;
    }
}
