/** Promises 37 to 41: numbers that wait, images, counts. */
public final class RowsTest {
    private static final Due due = new Due();

    public static void main(String[] args) {
        tell();
        check();
        checkByImage();
        checkAtTheEnd();
        keep();
        back();
        count();
        due.end();
    }

    /** One whom nothing is given, on a corner with a rent of 4: each hour 4 less, and no hats. */
    private static BeggarCorners payer() {
        BeggarCorners x = new BeggarCorners();
        x.beggar(0, 1, 0);
        x.rent(1, 4);
        Due.text(x, "alms 0");
        return x;
    }

    private static void tellAll(BeggarCorners x, int... numbers) {
        for (int v : numbers) {
            x.tell(v);
        }
    }

    private static void tell() {
        due.promise(37);
        BeggarCorners x = new BeggarCorners();
        for (int i = 1; i <= 60; i++) {
            due.is("tell, time " + i, x.tell(-i), i);
        }
        due.is("the next", x.tell(0), Due.FULL);
        due.is("count(6)", x.count(6), 60);
    }

    private static void check() {
        due.promise(38);
        BeggarCorners x = payer();
        tellAll(x, 1, 2, 3);
        due.is("BAD ahead of NO", x.check(0), Due.BAD);
        due.is("none wait, whatever is answered", x.count(6), 0);
        tellAll(x, 1, 2, 3);
        due.is("no image", x.check(1), Due.NO);
        due.is("none wait, whatever is answered", x.count(6), 0);
        x.keep();
        tellAll(x, 1);
        due.is("check(31)", x.check(31), Due.BAD);
        due.is("none wait, whatever is answered", x.count(6), 0);
        tellAll(x, -4, 0, -8, 0);
        due.is("two hours as they are", x.check(2), 0);
        due.is("none wait", x.count(6), 0);
        due.is("none told", x.check(2), 1);
        tellAll(x, -4, 0, -8, 0);
        due.is("one too many", x.check(1), 3);
        tellAll(x, -4, 0, -8, 0);
        due.is("one is missing", x.check(3), 5);
        tellAll(x, -4, 0, -8);
        due.is("the hats are missing", x.check(2), 4);
        tellAll(x, -3, 0, -8, 0);
        due.is("the first is not", x.check(2), 1);
        tellAll(x, -4, 1, -7, 0);
        due.is("the second is not", x.check(2), 2);
        tellAll(x, -4, 0, -8, 1);
        due.is("the last is not", x.check(2), 4);
        for (int i = 1; i <= 30; i++) {
            tellAll(x, -4 * i, 0);
        }
        due.is("thirty hours", x.check(30), 0);
        due.is("nothing changes", x.count(1), 0);
    }

    private static void checkByImage() {
        BeggarCorners x = payer();
        x.keep();
        x.hours(5);
        x.rent(1, 0);
        x.beggar(1, 1, 20);
        Due.text(x, "alms 50");
        tellAll(x, -4, 0, -8, 0);
        due.is("by the image, its rents and its texts", x.check(2), 0);
        due.is("given now", x.given(0, 5, 5, 5), 50);
        x.keep();
        due.is("another image", x.count(0), 2);
        tellAll(x, -4, 0);
        due.is("by the new image", x.check(1) == 0 ? 1 : 0, 0);
        x.back();
        int purses = x.behind(1, 0);
        int hats = x.behind(1, 2);
        tellAll(x, purses, hats);
        due.is("by the new image", x.check(1), 0);
        int manyPurses = x.behind(2, 0);
        int manyHats = x.behind(2, 2);
        x.hours(9);
        tellAll(x, purses, hats, manyPurses, manyHats);
        due.is("by the image, its hats", x.check(2), 0);
    }

    private static void checkAtTheEnd() {
        BeggarCorners x = payer();
        for (int i = 0; i < 99; i++) {
            x.hours(100);
        }
        x.hours(97);
        x.keep();
        int now = x.guild(0);
        tellAll(x, now - 4, 0, now - 8, 0);
        due.is("fewer hours than asked for", x.check(30), 0);
        tellAll(x, now - 4, 0, now - 8, 0, now - 12, 0);
        due.is("one too many", x.check(30), 5);
        x.hours(2);
        tellAll(x, now - 4, 0, now - 8, 0);
        due.is("by the hour of the image", x.check(5), 0);
        x.keep();
        due.is("no hours are left", x.check(1), 0);
        x.tell(now - 12);
        due.is("no hours are left: one too many", x.check(1), 1);
    }

    private static void keep() {
        due.promise(39);
        BeggarCorners x = new BeggarCorners();
        due.is("keep() of nobody", x.keep(), 0);
        x.beggar(0, 0, 0);
        x.beggar(0, 0, 0);
        due.is("keep()", x.keep(), 2);
        x.beggar(0, 0, 0);
        due.is("the last one kept", x.back(), 2);
    }

    private static void back() {
        due.promise(40);
        BeggarCorners x = payer();
        due.is("back() without an image", x.back(), Due.NO);
        x.seed(99);
        x.hours(3);
        x.rule(0, 33);
        x.rule(1, 1);
        x.rule(2, 6);
        Due.text(x, "fee 11");
        x.keep();
        int z = x.count(8);
        for (int time = 0; time < 2; time++) {
            x.seed(5);
            x.rule(0, 44);
            x.rule(1, 0);
            x.rule(2, 8);
            x.rent(1, 9);
            x.turns(0, 5);
            x.set(0, 1, 7);
            x.set(0, 2, 20);
            x.deal(4);
            Due.text(x, "fee 22");
            Due.text(x, "alms 33");
            x.hours(9);
            due.is("back()", x.back(), 1);
            int[] told = {0, 1, 0, -12, 0};
            for (int what = 0; what < told.length; what++) {
                due.is("told(0, " + what + ")", x.told(0, what), told[what]);
            }
            int[] counts = {1, 3, 33, 1, 6, 2};
            for (int what = 0; what < counts.length; what++) {
                due.is("count(" + what + ")", x.count(what), counts[what]);
            }
            due.is("z", x.count(8), z);
            due.is("rent(1, 4)", x.rent(1, 4), 4);
            due.is("CHEST", x.guild(1), 12);
            due.is("fee()", x.fee(), 11);
            due.is("given(0, 9, 9, 9)", x.given(0, 9, 9, 9), 0);
        }
        due.is("one more behind those of the image", Due.text(x, "alms 44"), 2);
        due.is("which counts", x.given(0, 9, 9, 9), 44);
        whatNoImageKeeps();
    }

    private static void whatNoImageKeeps() {
        BeggarCorners x = payer();
        x.keep();
        x.sheet(0, 0, 2);
        x.lay(0, 3, 7);
        x.tell(1);
        x.feed(0, 0, 0);
        x.back();
        due.is("sheets stay", x.mark(0, 1, 5), 1);
        due.is("slots stay", x.rest(0, 4), 3);
        due.is("numbers that wait stay", x.count(6), 1);
        due.is("the tape stays", x.count(7), 12);
    }

    private static void count() {
        due.promise(41);
        BeggarCorners x = new BeggarCorners();
        x.deal(3);
        x.seed(1);
        x.hours(7);
        x.rule(0, 5);
        x.rule(1, 1);
        x.rule(2, 3);
        Due.text(x, "fee 1");
        Due.text(x, "fee 1");
        tellAll(x, 4, 5, 6, 7);
        x.feed(0, 0, 0);
        x.trim(9);
        x.seed(-77);
        int[] want = {3, 7, 5, 1, 3, 2, 4, 9, -77};
        for (int what = 0; what < want.length; what++) {
            due.is("count(" + what + ")", x.count(what), want[what]);
        }
        due.is("count(9)", x.count(9), Due.BAD);
        due.is("count(-1)", x.count(-1), Due.BAD);
    }
}
