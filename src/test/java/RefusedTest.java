/** For each call that can be refused: its answer, which of several stands first, and that nothing has changed behind it. */
public final class RefusedTest {
    private static final Due due = new Due();
    private static final Edges empty = new Edges(due, Scene::empty);
    private static final Edges lively = new Edges(due, Scene::lively);
    private static final Edges crowded = new Edges(due, Scene::crowded);
    private static final Edges imageless = new Edges(due, Scene::withoutImage);

    public static void main(String[] args) {
        beggars();
        whatWillBe();
        texts();
        sheets();
        copies();
        slots();
        rows();
        looks();
        thoughts();
        imageBehindRefusals();
        due.end();
    }

    private static void beggars() {
        due.promise(2);
        crowded.refused(Due.FULL, "beggar", 0, 0, 0);
        crowded.refused(Due.BAD, "beggar", 6, 0, 0);
        crowded.refused(Due.BAD, "beggar", 0, 9, 0);
        crowded.refused(Due.BAD, "beggar", 0, 0, 21);
        due.promise(3);
        crowded.refused(Due.BAD, "told", 8, 0);
        empty.refused(Due.BAD, "told", 0, 0);
        due.promise(4);
        crowded.refused(Due.BAD, "given", 8, 1, 0, 0);
        empty.refused(Due.BAD, "given", 0, 1, 0, 0);
        due.promise(5);
        lively.refused(Due.KIND, "as", 0, 1);
        lively.refused(Due.KIND, "as", 3, 2);
        lively.refused(Due.BAD, "as", 5, 1);
        lively.refused(Due.BAD, "as", 0, 6);
        due.promise(6);
        crowded.refused(Due.BAD, "turns", 8, 0);
        empty.refused(Due.BAD, "turns", 0, 0);
        due.promise(7);
        crowded.refused(Due.BAD, "set", 8, 1, 0);
        lively.refused(Due.BAD, "set", 0, 0, 5);
        lively.refused(Due.BAD, "set", 0, 3, 5);
        lively.refused(Due.BAD, "set", 0, 1, 20);
        due.promise(9);
        lively.refused(Due.BAD, "rule", 1, 20);
        lively.refused(Due.BAD, "rule", 2, 20);
        due.promise(10);
        crowded.refused(Due.BAD, "deal", 0);
        crowded.refused(Due.BAD, "deal", 9);
        crowded.changesNothing(0, "deal", 8);
    }

    /** One who has paid all that it has, and more. */
    private static BeggarCorners inDebt() {
        BeggarCorners x = Scene.lively();
        x.hours(1);
        return x;
    }

    /** Two whom no letting moves stand against the law. */
    private static BeggarCorners lawless() {
        BeggarCorners x = Scene.lively();
        x.set(3, 1, 5);
        return x;
    }

    private static void whatWillBe() {
        due.promise(14);
        crowded.answers(0, "behind", 0, 3 + 7);
        crowded.refused(Due.BAD, "behind", 0, 3 + 8);
        empty.refused(Due.BAD, "behind", 0, 3);
        due.promise(15);
        empty.refused(Due.BAD, "best", 0, 1, 0);
        due.promise(16);
        empty.refused(Due.NONE, "letting", 1, 0);
        empty.refused(Due.NONE, "letting", 4, 1);
        empty.refused(Due.BAD, "letting", 0, 0);
        empty.refused(Due.BAD, "letting", 5, 0);
        empty.refused(Due.BAD, "letting", 1, 2);
        empty.refused(Due.BAD, "letting", 1, -1);
        Edges lawless = new Edges(due, RefusedTest::lawless);
        lawless.refused(Due.NONE, "letting", 1, 0);
        lawless.refused(Due.NONE, "letting", 4, 1);
        lawless.refused(Due.BAD, "letting", 5, 0);
        lawless.refused(Due.BAD, "letting", 1, 2);
        due.promise(18);
        Edges inDebt = new Edges(due, RefusedTest::inDebt);
        inDebt.refused(Due.NONE, "bestRent", 1, 0);
        inDebt.refused(Due.NONE, "bestRent", 60, 1);
        inDebt.refused(Due.BAD, "bestRent", 0, 0);
        inDebt.refused(Due.BAD, "bestRent", 61, 0);
        inDebt.refused(Due.BAD, "bestRent", 1, 2);
        inDebt.refused(Due.BAD, "bestRent", 1, -1);
        due.promise(20);
        lively.refused(Due.NOTHING, "stood", 3, 0, 0);
        lively.refused(Due.BAD, "stood", 4, 0, 0);
        lively.refused(Due.BAD, "stood", 3, 5, 0);
        lively.refused(Due.BAD, "stood", 3, -1, 0);
        lively.refused(Due.BAD, "stood", 3, 0, 2);
        lively.refused(Due.BAD, "stood", 3, 0, -1);
        empty.refused(Due.BAD, "stood", 0, 0, 0);
        due.promise(22);
        empty.refused(Due.BAD, "fine", 0);
    }

    /** 14 texts, and a tape that is none. */
    private static BeggarCorners crowdedAtFault() {
        BeggarCorners x = Scene.crowded();
        Due.tape(x, "fee 12+h   )");
        return x;
    }

    /** Room for a text, and a tape that is none. */
    private static BeggarCorners livelyAtFault() {
        BeggarCorners x = Scene.lively();
        Due.tape(x, "alms c+p");
        return x;
    }

    private static void texts() {
        due.promise(23);
        crowded.refused(Due.FULL, "feed", 0, 0, 0);
        crowded.refused(Due.FULL, "feed", -1, Integer.MIN_VALUE, Integer.MAX_VALUE);
        due.promise(24);
        crowded.refused(Due.BAD, "trim", 97);
        empty.refused(Due.BAD, "trim", 1);
        empty.refused(Due.BAD, "trim", -1);
        due.promise(25);
        crowded.refusedBut("tape", Due.FULL, "text");
        new Edges(due, RefusedTest::crowdedAtFault).refusedBut("tape", -100 - 11, "text");
        new Edges(due, RefusedTest::livelyAtFault).refusedBut("tape", -100 - 7, "text");
        empty.refusedBut("tape", -100, "text");
        usesUp("a text", Scene.lively(), 3);
        usesUp("one that finds no room", Scene.crowded(), Due.FULL);
        usesUp("a fault", livelyAtFault(), -100 - 7);
        usesUp("a fault ahead of FULL", crowdedAtFault(), -100 - 11);
        due.promise(26);
        crowded.refused(Due.BAD, "textTold", 14, 0);
        empty.refused(Due.BAD, "textTold", 0, 0);
        due.promise(27);
        empty.refused(Due.NONE, "why", 0);
        empty.refused(Due.NONE, "why", 2);
        empty.refused(Due.BAD, "why", 3);
        empty.refused(Due.BAD, "why", -1);
    }

    private static void usesUp(String what, BeggarCorners x, int answer) {
        due.is(what, x.text(), answer);
        due.is("bytes behind " + what, x.count(7), 0);
        due.is("the text of no bytes behind " + what, x.text(), -100);
    }

    private static void sheets() {
        due.promise(28);
        lively.refused(Due.BAD, "sheet", 4, 0, -1);
        lively.refused(Due.BAD, "sheet", -1, 0, -1);
        lively.refused(Due.BAD, "sheet", 4, -1, 0);
        lively.refused(Due.BAD, "sheet", 0, 2, -1);
        lively.refused(Due.BAD, "sheet", 0, -2, -1);
        lively.refused(Due.SIZE, "sheet", 0, 0, -1);
        lively.refused(Due.SIZE, "sheet", 3, 1, -1);
        due.promise(29);
        lively.refused(Due.BAD, "mark", 4, -1, Due.NONE);
        lively.refused(Due.BAD, "mark", -1, 0, 0);
        lively.refused(Due.NOTHING, "mark", 3, 0, 0);
        lively.refused(Due.NOTHING, "mark", 3, -1, Due.NONE);
        lively.refused(Due.INDEX, "mark", 0, 4, Due.NONE);
        lively.refused(Due.INDEX, "mark", 0, -1, Due.NONE);
        lively.refused(Due.INDEX, "mark", 1, 5, 100000);
        lively.refused(Due.INDEX, "mark", 2, 0, -100000);
        lively.refused(Due.KIND, "mark", 0, 3, Due.NONE);
        lively.refused(Due.BAD, "mark", 1, 2, 100000);
        due.promise(30);
        lively.refused(Due.BAD, "pour", 4);
        lively.refused(Due.NOTHING, "pour", 3);
        due.promise(31);
        lively.refused(Due.BAD, "reads", 4);
        lively.refused(Due.NOTHING, "reads", 3);
        lively.refused(Due.NONE, "reads", 2);
    }

    private static void copies() {
        due.promise(32);
        lively.refused(Due.BAD, "copy", 4, -1, 3, -1, -1);
        lively.refused(Due.BAD, "copy", 3, -1, 4, -1, -1);
        lively.refused(Due.BAD, "copy", -1, 0, 3, 0, 1);
        lively.refused(Due.BAD, "copy", 3, 0, -1, 0, 1);
        lively.refused(Due.NOTHING, "copy", 3, -1, 0, -1, -1);
        lively.refused(Due.NOTHING, "copy", 0, -1, 3, -1, -1);
        lively.refused(Due.NOTHING, "copy", 3, 0, 3, 0, 0);
        lively.refused(Due.KIND, "copy", 0, -1, 1, -1, -1);
        lively.refused(Due.KIND, "copy", 1, 0, 0, 0, 1);
        lively.refused(Due.KIND, "copy", 0, 0, 2, 0, 0);
        lively.refused(Due.INDEX, "copy", 1, -1, 1, 0, 1);
        lively.refused(Due.INDEX, "copy", 1, 0, 1, -1, 1);
        lively.refused(Due.INDEX, "copy", 1, 0, 1, 0, -1);
        lively.refused(Due.INDEX, "copy", 1, 5, 1, 0, 1);
        lively.refused(Due.INDEX, "copy", 1, 0, 1, 5, 1);
        lively.refused(Due.INDEX, "copy", 1, 1, 1, 0, 5);
        lively.refused(Due.INDEX, "copy", 1, 0, 1, 1, 5);
        lively.refused(Due.INDEX, "copy", 1, 0, 2, 0, 1);
        lively.refused(Due.INDEX, "copy", 2, 0, 1, 0, 1);
    }

    private static void slots() {
        due.promise(33);
        lively.refused(Due.BAD, "lay", 5, 2, 3);
        lively.refused(Due.BAD, "lay", -1, 2, 3);
        lively.refused(Due.BAD, "lay", 0, 4, 3);
        lively.refused(Due.BAD, "lay", 0, -1, 3);
        lively.refused(Due.BAD, "lay", 0, 1, 5);
        lively.refused(Due.BAD, "lay", 0, 2, 4);
        lively.refused(Due.NOTHING, "lay", 0, 2, 3);
        lively.refused(Due.NOTHING, "lay", 4, 2, 3);
        empty.refused(Due.BAD, "lay", 0, 1, 0);
        empty.refused(Due.NOTHING, "lay", 0, 2, 0);
        due.promise(34);
        lively.refused(Due.BAD, "ask", 5, 0);
        lively.refused(Due.BAD, "ask", 4, 6);
        lively.refused(Due.BAD, "ask", 2, -1);
        lively.refused(Due.NOTHING, "ask", 4, 0);
        lively.refused(Due.KIND, "ask", 1, 0);
        lively.refused(Due.KIND, "ask", 2, 0);
        lively.refused(Due.KIND, "ask", 0, 2);
        lively.refused(Due.KIND, "ask", 0, 5);
        due.promise(35);
        lively.refused(Due.BAD, "item", 5, -1);
        lively.refused(Due.NOTHING, "item", 4, -1);
        lively.refused(Due.KIND, "item", 0, -1);
        lively.refused(Due.KIND, "item", 2, 24);
        lively.refused(Due.INDEX, "item", 1, -1);
        lively.refused(Due.INDEX, "item", 1, 5);
        lively.refused(Due.INDEX, "item", 3, 0);
        lively.refused(Due.KIND, "item", 1, 2);
        due.promise(36);
        lively.refused(Due.BAD, "rest", 5, 0);
        lively.refused(Due.BAD, "rest", -1, 0);
        lively.refused(Due.NOTHING, "rest", 4, 0);
        lively.refused(Due.KIND, "rest", 0, 0);
        lively.refused(Due.KIND, "rest", 1, 0);
        lively.refused(Due.NO, "rest", 2, 0);
    }

    private static void rows() {
        due.promise(37);
        crowded.refused(Due.FULL, "tell", 0);
        due.promise(38);
        imageless.refusedBut("waiting", Due.NO, "check", 2);
        imageless.refusedBut("waiting", Due.BAD, "check", 0);
        imageless.refusedBut("waiting", Due.BAD, "check", 31);
        empty.refusedBut("waiting", Due.NO, "check", 1);
        noneWait("one that stands", Scene.lively(), 2, 0);
        noneWait("one that does not", Scene.lively(), 1, 3);
        noneWait("BAD", Scene.lively(), 0, Due.BAD);
        noneWait("BAD, too great", Scene.crowded(), 31, Due.BAD);
        noneWait("NO", Scene.withoutImage(), 2, Due.NO);
        noneWait("BAD ahead of NO", Scene.withoutImage(), 0, Due.BAD);
        due.promise(40);
        imageless.refused(Due.NO, "back");
        empty.refused(Due.NO, "back");
    }

    /** What only tells something changes nothing. */
    private static void looks() {
        due.sentence("and changes nothing");
        BeggarCorners x = Scene.crowded();
        crowded.changesNothing(x.told(2, 3), "told", 2, 3);
        crowded.changesNothing(9 / 3 / 2, "given", 3, 9, 9, 9);
        crowded.changesNothing(7, "as", 3, 1);
        crowded.changesNothing(x.guild(2), "guild", 2);
        crowded.changesNothing(13, "fee");
        crowded.changesNothing(2 * x.told(2, 3) - x.told(2, 4), "fine", 2);
        crowded.changesNothing(96, "trim", 96);
        crowded.changesNothing(1, "textTold", 13, 0);
        crowded.changesNothing(13, "why", 1);
        crowded.changesNothing(0, "reads", 0);
        crowded.changesNothing(0, "copy", 0, 4, 0, 0, 0);
        crowded.changesNothing(4, "copy", 0, 0, 0, 0, 4);
        crowded.changesNothing(2 * (7 + 6), "ask", 0, 1);
        crowded.changesNothing(-21, "item", 1, 3);
        crowded.changesNothing(-3, "rest", 2, 4);
        crowded.changesNothing(96, "count", 7);
    }

    /** Nobody on a corner is given anything; those at 1, 3 and 7 pay 5, 3 and 9. */
    private static void thoughts() {
        due.sentence("(All this is only thought, from now on, z as it is, without the bound of THE HOUR: nothing changes.)");
        BeggarCorners x = Scene.crowded();
        int purses = x.guild(0);
        crowded.changesNothing(purses - 100 * 17, "behind", 100, 0);
        crowded.changesNothing(x.guild(1) + 100 * 17, "behind", 100, 1);
        crowded.changesNothing(-900, "behind", 100, 3 + 7);
        crowded.changesNothing(0, "best", 0, 40, 0);
        crowded.changesNothing(x.told(0, 3), "best", 0, 40, 1);
        crowded.changesNothing((0 * 8 + 2) * 8 + 4, "letting", 4, 0);
        crowded.changesNothing(purses - 9 * 4, "letting", 4, 1);
        crowded.changesNothing(0, "takes", 3, 5, 60);
        crowded.changesNothing(0, "bestRent", 60, 0);
        crowded.changesNothing(x.guild(1), "bestRent", 60, 1);
        crowded.changesNothing(0, "mourned", 60, 0);
        crowded.changesNothing(purses - 60 * 17, "mourned", 60, 1);
        crowded.changesNothing(0, "stood", 0, 0, 0);
    }

    private static void noneWait(String what, BeggarCorners x, int n, int answer) {
        due.is(what, x.check(n), answer);
        due.is("numbers that wait behind " + what, x.count(6), 0);
        due.is("the next number behind " + what, x.tell(5), 1);
    }

    /** Calls that are refused for want of an image keep none. */
    private static void imageBehindRefusals() {
        due.promise(39);
        BeggarCorners x = Scene.withoutImage();
        x.check(2);
        x.check(0);
        x.back();
        due.is("back()", x.back(), Due.NO);
        due.is("check(1)", x.check(1), Due.NO);
        due.is("keep()", x.keep(), 5);
        due.is("back()", x.back(), 5);
    }
}
