/** What is full, and the first that finds no room: beggars, texts, the tape, numbers that wait, hours, rows. */
public final class FullTest {
    private static final Due due = new Due();

    public static void main(String[] args) {
        beggars();
        readsOfAll();
        dealt();
        aNinth();
        texts();
        tape();
        waiting();
        theHour();
        sheet();
        calls();
        due.end();
    }

    private static void beggars() {
        due.sentence("BEGGARS, 8 at most, numbered from 0");
        BeggarCorners x = new BeggarCorners();
        for (int b = 0; b < 7; b++) {
            due.is("one more", x.beggar(b % 6, 8, 0), b);
        }
        x.keep();
        due.is("the eighth", x.beggar(0, 7, 20), 7);
        due.is("the ninth", x.beggar(0, 7, 20), Due.FULL);
        due.is("the ninth again", x.beggar(0, 0, 0), Due.FULL);
        due.is("BEGGARS", x.count(0), 8);
        due.is("the eighth stands", x.told(7, 1), 7);
        due.is("there is no ninth", x.told(8, 0), Due.BAD);
        due.is("PURSE of the eighth", x.behind(0, 3 + 7), 0);
        due.is("PURSE of the ninth", x.behind(0, 3 + 8), Due.BAD);
        x.back();
        due.is("there is room for the eighth again", x.beggar(1, 2, 3), 7);
        due.is("and for no more", x.beggar(1, 2, 3), Due.FULL);
    }

    private static void readsOfAll() {
        due.sentence("(of places that are no BEGGAR all numbers are not)");
        BeggarCorners x = new BeggarCorners();
        for (int b = 0; b < 8; b++) {
            x.beggar(0, b, 0);
            x.rent(b, b);
        }
        Due.text(x, "alms 0");
        x.hours(9);
        x.sheet(0, 0, 8);
        x.sheet(1, 1, 9);
        for (int b = 0; b < 8; b++) {
            due.is("the first that is not", x.reads(0), b == 0 ? 1 : b);
            x.mark(0, b, -9 * b);
            x.mark(1, b, -9 * b);
        }
        due.is("all of the eight", x.reads(0), Due.NONE);
        due.is("there is no ninth", x.reads(1), 8);
        x.mark(1, 8, Due.NONE);
        due.is("where there is no number", x.reads(1), Due.NONE);
    }

    private static void dealt() {
        due.sentence("as many as there is room for (no draws for others)");
        for (int here = 0; here <= 8; here++) {
            BeggarCorners x = new BeggarCorners();
            for (int b = 0; b < here; b++) {
                x.beggar(0, 8, 0);
            }
            due.is("deal(8) when there are " + here, x.deal(8), 8 - here);
            int z = 1;
            for (int draw = 0; draw < 3 * (8 - here); draw++) {
                z = z * 1103515245 + 12345;
            }
            due.is("z when there were " + here, x.count(8), z);
            due.is("BEGGARS", x.count(0), 8);
            due.is("deal(1) then", x.deal(1), 0);
            due.is("z then", x.count(8), z);
        }
        BeggarCorners x = new BeggarCorners();
        x.deal(5);
        due.is("just as many as there is room for", x.deal(3), 3);
        x = new BeggarCorners();
        x.deal(6);
        due.is("one more than there is room for", x.deal(3), 2);
    }

    /** Seven at home and one at 5; when wet one passer goes from 4 to 6, the other one does not come there. */
    private static void aNinth() {
        due.sentence("(behind all others in number, a ninth one, too)");
        BeggarCorners x = new BeggarCorners();
        for (int b = 0; b < 7; b++) {
            x.beggar(0, 8, 0);
        }
        x.beggar(0, 5, 0);
        x.rule(0, 0);
        x.rule(1, 1);
        x.rule(2, 5);
        Due.text(x, "alms g");
        x.seed(Due.seedWhere(d -> Due.goes(d, 0, 4, 6) && Due.within(d, 1, 0, 3)));
        due.is("behind the eighth on its corner", x.takes(0, 5, 1), 0);
        due.is("ahead of it on his way", x.takes(0, 4, 1), 3);
        due.is("it does not come", x.count(0), 8);
        due.is("nor stay for what is thought next", x.behind(1, 2), 2);
        due.is("nor for guild", x.guild(4), 1 << 5);
    }

    private static void texts() {
        due.sentence("TEXTS, 14 at most, numbered from 0");
        BeggarCorners x = new BeggarCorners();
        for (int text = 0; text < 13; text++) {
            due.is("text " + text, Due.text(x, "fee " + text), text);
        }
        x.keep();
        due.is("the fourteenth", Due.text(x, "fee 13"), 13);
        due.is("the fifteenth", Due.text(x, "fee 14"), Due.FULL);
        due.is("bytes", x.count(7), 0);
        due.is("the fifteenth again", Due.text(x, "alms c"), Due.FULL);
        due.is("TEXTS", x.count(5), 14);
        due.is("the fourteenth is there", x.textTold(13, 0), 1);
        due.is("the fifteenth is not", x.textTold(14, 0), Due.BAD);
        due.is("the fourteenth counts", x.fee(), 13);
        due.is("no alms came", x.why(0), Due.NONE);
        x.back();
        due.is("there is room for the fourteenth again", Due.text(x, "fine p"), 13);
        due.is("and for no more", Due.text(x, "fine p"), Due.FULL);
        due.is("the thirteenth counts", x.fee(), 12);
    }

    private static void tape() {
        due.sentence("FULL: it would have more than 96");
        BeggarCorners x = new BeggarCorners();
        for (int bytes = 12; bytes <= 96; bytes += 12) {
            due.is("feed", x.feed(0x20202020, 0x20202020, 0x20202020), bytes);
        }
        due.is("feed(0, 0, 0)", x.feed(0, 0, 0), Due.FULL);
        due.is("bytes", x.count(7), 96);
        due.is("trim(97)", x.trim(97), Due.BAD);
        due.is("trim(96)", x.trim(96), 96);
        due.is("nothing came", x.text(), -196);
        for (int bytes = 85; bytes <= 96; bytes++) {
            Due.tape(x, "fee " + "c+".repeat(40) + " ".repeat(bytes - 84));
            due.is("feed behind " + bytes, x.feed(0x63202020, 0x20202020, 0x20202020), Due.FULL);
        }
        Due.tape(x, "fee " + "c+".repeat(40));
        due.is("feed behind 84", x.feed(0x63202020, 0x20202020, 0x20202020), 96);
        due.is("a text of 96 bytes", x.text(), 0);
        due.is("its pieces", x.textTold(0, 1), 41);
        due.is("the longest text", Due.text(x, "fee 1" + "+1".repeat(45) + "1"), 1);
        due.is("what it gives", x.fee(), 45 + 11);
        due.is("room again", x.feed(0, 0, 0), 12);
    }

    private static void waiting() {
        due.sentence("FULL: 60 wait");
        BeggarCorners x = Scene.crowded();
        due.is("numbers that wait", x.count(6), 60);
        due.is("the next", x.tell(0), Due.FULL);
        due.is("the next again", x.tell(Integer.MIN_VALUE), Due.FULL);
        due.is("numbers that wait", x.count(6), 60);
        due.is("thirty hours told", x.check(30), 0);
        due.is("room again", x.tell(1), 1);
        BeggarCorners y = new BeggarCorners();
        for (int i = 1; i <= 59; i++) {
            y.tell(0);
        }
        y.keep();
        due.is("the last that finds room", y.tell(1), 60);
        due.is("it is the last that is not", y.check(30), 1 + 59);
        for (int i = 1; i <= 59; i++) {
            y.tell(0);
        }
        due.is("it is missing", y.check(30), 1 + 59);
        for (int i = 1; i <= 60; i++) {
            y.tell(0);
        }
        due.is("two too many", y.check(29), 1 + 58);
    }

    /** Nobody is given anything; the one on a corner pays 1 an hour. */
    private static BeggarCorners at(int hour) {
        BeggarCorners x = new BeggarCorners();
        x.beggar(0, 2, 0);
        x.rent(2, 1);
        Due.text(x, "alms 0");
        for (int i = 0; i < hour / 100; i++) {
            x.hours(100);
        }
        if (hour % 100 > 0) {
            x.hours(hour % 100);
        }
        due.is("THE HOUR", x.count(1), hour);
        return x;
    }

    private static void theHour() {
        due.sentence("THE HOUR is 0 at first, 9999 at most");
        BeggarCorners x = at(9998);
        x.hours(1);
        due.is("one more", x.count(1), 9999);
        due.is("CHEST", x.guild(1), 9999);
        int z = x.count(8);
        due.is("hours(1)", x.hours(1), 0);
        due.is("hours(100)", x.hours(100), 0);
        due.is("THE HOUR stays", x.count(1), 9999);
        due.is("CHEST stays", x.guild(1), 9999);
        due.is("z stays", x.count(8), z);
        due.is("hours(101)", x.hours(101), Due.BAD);
        x = at(9899);
        x.hours(100);
        due.is("just up to the last", x.guild(1), 9999);
        x = at(9900);
        x.hours(100);
        due.is("fewer than asked for", x.guild(1), 9999);
        thoughtAtTheLastHour(x);
        checkedAtTheLastHour();
    }

    private static void thoughtAtTheLastHour(BeggarCorners x) {
        due.sentence("without the bound of THE HOUR");
        due.is("behind", x.behind(100, 1), 9999 + 100);
        due.is("best", x.best(0, 40, 1), -9999);
        due.is("bestRent", x.bestRent(60, 0), Due.NONE);
        due.is("letting", x.letting(4, 0), 0);
        due.is("mourned", x.mourned(60, 1), -9999 - 60);
        x.rent(0, 9);
        x.rent(1, 9);
        x.rent(2, 9);
        for (int corner = 3; corner < 8; corner++) {
            x.rent(corner, 8);
        }
        due.is("letting when all pay", x.letting(4, 1), -9999 - 4 * 8);
        due.is("THE HOUR", x.count(1), 9999);
    }

    private static void checkedAtTheLastHour() {
        due.sentence("fewer, if THE HOUR would be above 9999");
        BeggarCorners x = at(9969);
        x.keep();
        tellPayments(x, 9969, 30);
        due.is("thirty hours are left", x.check(30), 0);
        x = at(9970);
        x.keep();
        tellPayments(x, 9970, 29);
        due.is("29 hours are left", x.check(30), 0);
        tellPayments(x, 9970, 30);
        due.is("one more than are left", x.check(30), 1 + 58);
        tellPayments(x, 9970, 28);
        due.is("one is missing", x.check(30), 1 + 56);
    }

    private static void tellPayments(BeggarCorners x, int paid, int hours) {
        for (int i = 1; i <= hours; i++) {
            x.tell(-paid - i);
            x.tell(0);
        }
    }

    private static void sheet() {
        due.sentence("with 0 to 24 places");
        BeggarCorners x = new BeggarCorners();
        for (int sort = 0; sort < 2; sort++) {
            due.is("sheet(1, " + sort + ", 24)", x.sheet(1, sort, 24), 24);
            for (int place = 0; place < 24; place++) {
                due.is("mark", x.mark(1, place, 100 + place), 1);
            }
            due.is("mark(1, 24, 0)", x.mark(1, 24, 0), Due.INDEX);
            x.lay(0, 2, 1);
            for (int place = 0; place < 24; place++) {
                due.is("item", x.item(0, place), 100 + place);
            }
            due.is("item(0, 24)", x.item(0, 24), Due.INDEX);
            x.sheet(2, sort, 24);
            due.is("copy of all", x.copy(1, 0, 2, 0, 24), 24);
            due.is("copy of one more", x.copy(1, 0, 2, 0, 25), Due.INDEX);
            x.lay(0, 2, 2);
            due.is("the first that came", x.item(0, 0), 100);
            due.is("the last that came", x.item(0, 23), 123);
        }
    }

    private static void calls() {
        due.sentence("An object is used for at most 512 calls");
        BeggarCorners x = new BeggarCorners();
        for (int call = 1; call < 512; call++) {
            x.tell(call);
        }
        due.is("the 512th call", x.count(6), 60);
    }
}
