/** What is empty: no beggars, nobody on a corner, rows without places or numbers, slots, the tape, texts, the image. */
public final class EmptyTest {
    private static final Due due = new Due();
    private static final Edges empty = new Edges(due, Scene::empty);

    public static void main(String[] args) {
        noBeggars();
        nobodyOnACorner();
        noPlaces();
        noNumbers();
        emptySlots();
        emptyTape();
        noTexts();
        noImage();
        noneWait();
        due.end();
    }

    private static void noBeggars() {
        due.sentence("no BEGGARS");
        empty.answers(0, "count", 0);
        for (int what = 0; what < 5; what++) {
            empty.answers(0, "guild", what);
        }
        for (int what = 0; what < 3; what++) {
            empty.answers(0, "behind", 0, what);
            empty.answers(0, "behind", 100, what);
        }
        empty.answers(0, "hours", 1);
        empty.answers(0, "hours", 100);
        empty.answers(0, "takes", 5, 0, 60);
        empty.answers(0, "takes", 0, 7, 1);
        empty.answers(0, "bestRent", 1, 0);
        empty.answers(0, "bestRent", 60, 1);
        empty.answers(0, "mourned", 1, 0);
        empty.answers(0, "mourned", 60, 1);
        empty.answers(0, "fee");
        empty.answers(8, "deal", 8);
        empty.answers(0, "beggar", 0, 8, 0);
        empty.answers(0, "keep");
        BeggarCorners x = new BeggarCorners();
        x.rent(3, 9);
        x.rule(2, 3);
        due.is("hours of nobody", x.hours(100), 0);
        due.is("THE HOUR", x.count(1), 100);
        due.is("CHEST when nobody pays", x.guild(1), 0);
        due.is("keep() of nobody", x.keep(), 0);
        x.deal(8);
        due.is("back() to nobody", x.back(), 0);
        due.is("BEGGARS", x.count(0), 0);
        due.is("told(0, 0)", x.told(0, 0), Due.BAD);
    }

    private static void nobodyOnACorner() {
        due.sentence("CORNER (or 8: at home)");
        BeggarCorners x = new BeggarCorners();
        for (int kind = 0; kind < 6; kind++) {
            x.beggar(kind, 8, 20);
        }
        for (int corner = 0; corner < 8; corner++) {
            x.rent(corner, 9);
        }
        due.is("hours of those at home", x.hours(100), 0);
        for (int what = 0; what < 5; what++) {
            due.is("guild(" + what + ")", x.guild(what), 0);
        }
        due.is("takes of those at home", x.takes(0, 3, 60), 0);
        due.is("bestRent when nobody pays", x.bestRent(60, 0), 0);
        due.is("CHEST when nobody pays", x.bestRent(60, 1), 0);
        due.is("mourned by nobody", x.mourned(60, 0), 0);
        due.is("PURSES", x.mourned(60, 1), 0);
    }

    private static void noPlaces() {
        due.sentence("with 0 to 24 places");
        for (int sort = 0; sort < 2; sort++) {
            BeggarCorners x = new BeggarCorners();
            x.beggar(0, 3, 5);
            due.is("sheet(0, " + sort + ", 0)", x.sheet(0, sort, 0), 0);
            due.is("mark(0, 0, 0)", x.mark(0, 0, 0), Due.INDEX);
            due.is("mark(0, 0, NONE)", x.mark(0, 0, Due.NONE), Due.INDEX);
            due.is("pour(0)", x.pour(0), 0);
            due.is("reads(0)", x.reads(0), Due.NONE);
            due.is("stood(0, 0, 0)", x.stood(0, 0, 0), 0);
            due.is("stood(0, 0, 1)", x.stood(0, 0, 1), 0);
            due.is("copy of none", x.copy(0, 0, 0, 0, 0), 0);
            due.is("copy of one", x.copy(0, 0, 0, 0, 1), Due.INDEX);
            due.is("copy of none from 1", x.copy(0, 1, 0, 0, 0), Due.INDEX);
            due.is("copy of none to 1", x.copy(0, 0, 0, 1, 0), Due.INDEX);
            due.is("lay(0, 2, 0)", x.lay(0, 2, 0), 0);
            due.is("item(0, 0)", x.item(0, 0), Due.INDEX);
            due.is("item(0, -1)", x.item(0, -1), Due.INDEX);
            due.is("it holds a sheet", x.lay(0, 0, 0), 2);
            due.is("MISSING is another thing", x.sheet(0, -1, 0), 0);
            due.is("pour(0) then", x.pour(0), Due.NOTHING);
        }
    }

    private static void noNumbers() {
        due.sentence("A place of floats may be NO NUMBER");
        BeggarCorners x = new BeggarCorners();
        x.beggar(0, 3, 5);
        x.rent(2, 6);
        x.sheet(0, 1, 24);
        for (int place = 0; place < 24; place++) {
            x.mark(0, place, Due.NONE);
        }
        due.is("pour(0)", x.pour(0), 0);
        due.is("rent stays", x.rent(2, 6), 6);
        due.is("reads(0)", x.reads(0), Due.NONE);
        due.is("stood(0, 0, 0)", x.stood(0, 0, 0), 0);
        due.is("stood(0, 0, 1)", x.stood(0, 0, 1), 0);
        x.lay(0, 2, 0);
        due.is("item(0, 0)", x.item(0, 0), Due.KIND);
        due.is("item(0, 23)", x.item(0, 23), Due.KIND);
        due.is("item(0, 24)", x.item(0, 24), Due.INDEX);
        due.is("a number again", x.mark(0, 0, 0), 1);
        due.is("reads(0) of PURSE 0", x.reads(0), Due.NONE);
        x.mark(0, 23, 0);
        due.is("reads(0) of a place that is no BEGGAR", x.reads(0), 23);
    }

    private static void emptySlots() {
        due.sentence("SLOTS 0 .. 4 each hold nothing (at first)");
        for (int slot = 0; slot < 5; slot++) {
            empty.answers(Due.NOTHING, "ask", slot, 0);
            empty.answers(Due.NOTHING, "item", slot, 0);
            empty.answers(Due.NOTHING, "rest", slot, 1);
            empty.answers(0, "lay", slot, 0, 0);
        }
        for (int thing = 1; thing <= 3; thing++) {
            BeggarCorners x = Scene.lively();
            due.is("lay(4, " + thing + ", 0)", x.lay(4, thing, 0), 0);
            due.is("lay(4, 0, 0)", x.lay(4, 0, 0), thing);
            due.is("ask(4, 0)", x.ask(4, 0), Due.NOTHING);
            due.is("item(4, 0)", x.item(4, 0), Due.NOTHING);
            due.is("rest(4, 1)", x.rest(4, 1), Due.NOTHING);
            due.is("lay(4, 0, 0) again", x.lay(4, 0, 0), 0);
        }
    }

    private static void emptyTape() {
        due.sentence("the end (the place behind the last byte), if it comes too soon");
        BeggarCorners x = new BeggarCorners();
        due.is("bytes", x.count(7), 0);
        due.is("trim(0)", x.trim(0), 0);
        due.is("trim(1)", x.trim(1), Due.BAD);
        due.is("text()", x.text(), -100);
        x.feed(-1, -1, -1);
        due.is("trim(0) of some", x.trim(0), 0);
        due.is("text() then", x.text(), -100);
        due.is("a blank", Due.text(x, " "), -101);
        due.is("96 blanks", Due.text(x, " ".repeat(96)), -196);
        due.is("texts", x.count(5), 0);
    }

    private static void noTexts() {
        due.sentence("without a TEXT");
        BeggarCorners x = new BeggarCorners();
        x.beggar(0, 4, 20);
        x.rent(4, 9);
        x.rule(2, 4);
        x.hours(4);
        due.is("given", x.given(0, 9, 0, 9), 9 + 4);
        due.is("fee() is CHEST", x.fee(), 36);
        due.is("fine(0) is PURSE", x.fine(0), x.told(0, 3));
        for (int key = 0; key < 3; key++) {
            due.is("why(" + key + ")", x.why(key), Due.NONE);
        }
        Due.text(x, "alms");
        due.is("nor by what is none", x.given(0, 9, 0, 9), 13);
        due.is("textTold(0, 0)", x.textTold(0, 0), Due.BAD);
    }

    private static void noImage() {
        due.sentence("NO: there is no IMAGE");
        empty.answers(Due.NO, "back");
        empty.answers(Due.NO, "check", 1);
        empty.answers(Due.NO, "check", 30);
        BeggarCorners x = new BeggarCorners();
        x.keep();
        due.is("with one", x.back(), 0);
        due.is("with one, none told", x.check(1), 1);
        x.tell(0);
        x.tell(0);
        due.is("with one, the hour of nobody", x.check(1), 0);
    }

    private static void noneWait() {
        due.sentence("(or is missing, or one too many)");
        BeggarCorners x = new BeggarCorners();
        x.keep();
        due.is("none wait", x.count(6), 0);
        for (int n : new int[] {1, 2, 30}) {
            due.is("the first is missing of " + n, x.check(n), 1);
        }
    }
}
