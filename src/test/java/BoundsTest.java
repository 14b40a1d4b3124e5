/** For each argument of each call: the last value that is allowed and the first that is not, on both sides. */
public final class BoundsTest {
    private static final Due due = new Due();
    private static final Edges lively = new Edges(due, Scene::lively);
    private static final Edges givers = new Edges(due, BoundsTest::givers);

    private static final int[] PURSE = new int[5];
    private static final int PURSES, CHEST;

    static {
        BeggarCorners x = Scene.lively();
        for (int b = 0; b < PURSE.length; b++) {
            PURSE[b] = x.told(b, 3);
        }
        PURSES = x.guild(0);
        CHEST = x.guild(1);
    }

    public static void main(String[] args) {
        beggars();
        corners();
        hours();
        whatWillBe();
        texts();
        sheets();
        slots();
        rows();
        due.end();
    }

    /** A BLIND one without SKILL and another BEGGAR, no texts. */
    private static BeggarCorners givers() {
        BeggarCorners x = new BeggarCorners();
        x.beggar(1, 0, 0);
        x.beggar(0, 2, 20);
        return x;
    }

    private static void beggars() {
        due.promise(2);
        lively.of("beggar", 0, 3, 10).at(0).from(0, 5).to(5, 5);
        lively.at(1).from(0, 5).to(8, 5);
        lively.at(2).from(0, 5).to(20, 5);
        due.promise(3);
        lively.of("told", 0, 0).at(0).from(0, 0).to(4, 4);
        lively.at(1).from(0, 0).to(6, 10);
        due.promise(4);
        givers.of("given", 0, 9, 0, 9).at(0).from(0, 9).to(1, 9 + 4);
        givers.at(1).from(1, 1).to(9, 9);
        givers.at(2).from(0, 9).to(9, 9 + 3);
        givers.at(3).from(0, 0).to(9, 9);
        due.promise(5);
        lively.of("as", 4, 0).at(0).from(0, 10).to(4, 3);
        lively.at(1).from(0, 3).to(5, Due.KIND);
        due.promise(6);
        lively.of("turns", 0, 3).at(0).from(0, 0).to(4, 4);
        lively.at(1).from(0, 0).to(5, 0);
        due.promise(7);
        lively.of("set", 0, 2, 3).at(0).from(0, 10).to(4, 3);
        lively.at(1).from(1, 1).to(2, 10);
        lively.at(2).from(0, 10).to(20, 10);
        lively.of("set", 0, 1, 3).at(2).from(0, 1).to(8, 1);
    }

    private static void corners() {
        due.promise(8);
        lively.of("rent", 1, 0).at(0).from(0, 0).to(7, 9);
        lively.at(1).from(0, 5).to(9, 5);
        due.promise(9);
        lively.of("rule", 0, 1).at(0).from(0, 0).to(2, 8);
        lively.at(1).from(0, 0).to(100, 0);
        lively.of("rule", 1, 0).at(1).from(0, 1).to(1, 1);
        lively.of("rule", 2, 0).at(1).from(0, 8).to(8, 8);
        due.promise(10);
        lively.of("deal", 1).at(0).from(1, 1).to(8, 3);
        due.promise(11);
        lively.of("seed", 0).at(0).any(77);
    }

    private static void hours() {
        due.promise(12);
        lively.of("hours", 1).at(0).from(1, 0).to(100, 0);
        due.promise(13);
        lively.of("guild", 0).at(0).from(0, PURSES).to(4, 1 << 1 | 1 << 3 | 1 << 5);
    }

    /** Nobody is given anything; those at 1 and 3 pay 5 and 3 an hour. */
    private static void whatWillBe() {
        due.promise(14);
        lively.of("behind", 0, 0).at(0).from(0, PURSES).to(100, PURSES - 100 * 8);
        lively.of("behind", 1, 0).at(1).from(0, PURSES - 8).to(3 + 4, PURSE[4]);
        due.promise(15);
        lively.of("best", 0, 1, 0).at(0).from(0, 0).to(4, 0);
        lively.at(1).from(1, 0).to(40, 0);
        lively.at(2).from(0, 0).to(1, PURSE[0]);
        due.promise(16);
        int digits = (0 * 8 + 2) * 8 + 4;
        lively.of("letting", 1, 0).at(0).from(1, digits).to(4, digits);
        lively.at(1).from(0, digits).to(1, PURSES);
        due.promise(17);
        lively.of("takes", 0, 0, 1).at(0).from(0, 0).to(5, 0);
        lively.at(1).from(0, 0).to(7, 0);
        lively.at(2).from(1, 0).to(60, 0);
        due.promise(18);
        int rent = Math.min(9, Math.min(PURSE[0], Math.min(PURSE[2], PURSE[4])));
        int rentOfMany = Math.min(9, Math.min(PURSE[0], Math.min(PURSE[2], PURSE[4])) / 60);
        lively.of("bestRent", 1, 0).at(0).from(1, rent).to(60, rentOfMany);
        lively.at(1).from(0, rent).to(1, CHEST + 3 * rent);
        due.promise(19);
        lively.of("mourned", 1, 0).at(0).from(1, 0).to(60, 0);
        lively.at(1).from(0, 0).to(1, PURSES - 8);
        due.promise(20);
        int apart = Math.abs(PURSE[0] - 3) + Math.abs(PURSE[0] - 2) + Math.abs(PURSE[0] - 1) + Math.abs(PURSE[0]);
        lively.of("stood", 0, 0, 0).at(0).from(0, 0).to(3, Due.NOTHING);
        lively.at(2).from(0, 0).to(1, apart);
        lively.of("stood", 2, 0, 0).at(1).from(0, 0).to(4, 0);
        due.promise(22);
        int hatsOfFirst = Scene.lively().told(0, 4);
        int hatsOfLast = Scene.lively().told(4, 4);
        lively.of("fine", 0).at(0).from(0, 2 * PURSE[0] - hatsOfFirst).to(4, 2 * PURSE[4] - hatsOfLast);
    }

    private static void texts() {
        due.promise(23);
        for (int argument = 0; argument < 3; argument++) {
            lively.of("feed", 0, 0, 0).at(argument).any(24);
        }
        due.promise(24);
        lively.of("trim", 0).at(0).from(0, 0).to(12, 12);
        due.promise(26);
        lively.of("textTold", 0, 0).at(0).from(0, 2).to(2, 1);
        lively.at(1).from(0, 2).to(1, 3);
        due.promise(27);
        lively.of("why", 0).at(0).from(0, 1).to(2, 0);
    }

    private static void sheets() {
        due.promise(28);
        lively.of("sheet", 0, 0, 3).at(0).from(0, 3).to(3, 3);
        lively.at(1).from(-1, 0).to(1, 3);
        lively.at(2).from(0, 0, Due.SIZE).to(24, 24);
        lively.of("sheet", 0, 1, 3).at(2).from(0, 0, Due.SIZE).to(24, 24);
        lively.of("sheet", 0, -1, 0).at(2).any(0);
        marks();
        due.promise(30);
        lively.of("pour", 0).at(0).from(0, 4).to(3, Due.NOTHING);
        pours();
        due.promise(31);
        lively.of("reads", 0).at(0).from(0, 0).to(3, Due.NOTHING);
        due.promise(32);
        lively.of("copy", 0, 0, 0, 0, 1).at(0).from(0, 1).to(3, Due.NOTHING);
        lively.at(1).from(0, 1, Due.INDEX).to(3, 1, Due.INDEX);
        lively.at(2).from(0, 1).to(3, Due.NOTHING);
        lively.at(3).from(0, 1, Due.INDEX).to(3, 1, Due.INDEX);
        lively.at(4).from(0, 0, Due.INDEX).to(4, 4, Due.INDEX);
        lively.of("copy", 1, 2, 1, 0, 1).at(4).from(0, 0, Due.INDEX).to(3, 3, Due.INDEX);
        lively.of("copy", 1, 0, 1, 3, 1).at(4).from(0, 0, Due.INDEX).to(2, 2, Due.INDEX);
        lively.of("copy", 1, 5, 1, 0, 0).at(1).to(5, 0, Due.INDEX);
        lively.of("copy", 1, 0, 1, 5, 0).at(3).to(5, 0, Due.INDEX);
    }

    private static void marks() {
        due.promise(29);
        lively.of("mark", 0, 0, 5).at(0).from(0, 1).to(3, Due.NOTHING);
        lively.at(1).from(0, 1, Due.INDEX).to(3, 1, Due.INDEX);
        lively.at(2).any(1);
        lively.refused(Due.KIND, "mark", 0, 0, Due.NONE);
        lively.answers(1, "mark", 0, 0, Due.NONE - 1);
        lively.answers(1, "mark", 0, 0, Due.NONE + 1);
        lively.of("mark", 1, 0, 5).at(1).from(0, 1, Due.INDEX).to(4, 1, Due.INDEX);
        lively.at(2).from(-99999, 1).to(99999, 1);
        lively.answers(1, "mark", 1, 0, Due.NONE);
        lively.refused(Due.BAD, "mark", 1, 0, Due.NONE - 1);
        lively.refused(Due.BAD, "mark", 1, 0, Due.NONE + 1);
    }

    /** Each held within 0 .. 9: the rent is 5 ahead of it. */
    private static void pours() {
        int[][] rows = {{-1, 0}, {0, 0}, {1, 1}, {8, 8}, {9, 9}, {10, 9}, {-32768, 0}, {32767, 9}, {-99999, 0}, {99999, 9}, {5, 5}};
        for (int[] row : rows) {
            for (int sort = (short) row[0] == row[0] ? 0 : 1; sort < 2; sort++) {
                BeggarCorners x = new BeggarCorners();
                x.rent(7, 5);
                x.sheet(0, sort, 24);
                x.mark(0, 7, row[0]);
                due.is("pour of " + row[0], x.pour(0), row[1] == 5 ? 0 : 1);
                due.is("rent by " + row[0], x.rent(7, 5), row[1]);
            }
        }
    }

    private static void slots() {
        due.promise(33);
        lively.of("lay", 0, 0, 0).at(0).from(0, 1).to(4, 0);
        lively.at(1).from(0, 1).to(3, 1);
        lively.at(2).any(1);
        lively.of("lay", 0, 1, 0).at(2).from(0, 1).to(4, 1);
        lively.of("lay", 0, 2, 0).at(2).from(0, 1).to(3, Due.NOTHING);
        lively.of("lay", 0, 3, 0).at(2).any(1);
        due.promise(34);
        lively.of("ask", 0, 0).at(0).from(0, 2 * (7 + 6)).to(4, Due.NOTHING);
        lively.at(1).from(0, 2 * (7 + 6)).to(5, Due.KIND);
        due.promise(35);
        lively.of("item", 1, 0).at(0).from(0, Due.KIND).to(4, Due.NOTHING);
        lively.at(1).from(0, 0, Due.INDEX).to(4, 0, Due.INDEX);
        due.promise(36);
        lively.of("rest", 2, 4).at(0).from(0, Due.KIND).to(4, Due.NOTHING);
        lively.answers(0, "rest", 2, 1);
        lively.answers(0, "rest", 2, -1);
        lively.refused(Due.NO, "rest", 2, 0);
    }

    private static void rows() {
        due.promise(37);
        lively.of("tell", 0).at(0).any(5);
        due.promise(38);
        lively.answers(1 + 2, "check", 1);
        lively.answers(0, "check", 2);
        lively.answers(1 + 4, "check", 30);
        for (int n : new int[] {0, -1, Integer.MIN_VALUE, 31, Integer.MAX_VALUE}) {
            lively.refusedBut("waiting", Due.BAD, "check", n);
        }
        due.promise(41);
        lively.of("count", 0).at(0).from(0, 5).to(8, 77);
    }
}
