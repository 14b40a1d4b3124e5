/** Promises 28 to 36: sheets and slots. */
public final class SheetsTest {
    private static final Due due = new Due();

    public static void main(String[] args) {
        sheet();
        mark();
        pour();
        reads();
        copy();
        lay();
        ask();
        item();
        rest();
        due.end();
    }

    /** The places of a sheet, by way of a slot. */
    private static void holds(BeggarCorners x, int sheet, int... want) {
        x.lay(4, 2, sheet);
        for (int i = 0; i < want.length; i++) {
            due.is("place " + i + " of sheet " + sheet, x.item(4, i), want[i]);
        }
        due.is("behind the last place of sheet " + sheet, x.item(4, want.length), Due.INDEX);
    }

    private static BeggarCorners sheets() {
        BeggarCorners x = new BeggarCorners();
        x.sheet(0, 0, 5);
        x.sheet(1, 1, 5);
        for (int i = 0; i < 5; i++) {
            x.mark(0, i, i + 1);
            x.mark(1, i, 10 * (i + 1));
        }
        return x;
    }

    private static void sheet() {
        due.promise(28);
        BeggarCorners x = new BeggarCorners();
        due.is("sheet(0, 0, 24)", x.sheet(0, 0, 24), 24);
        due.is("sheet(0, 1, 25)", x.sheet(0, 1, 25), Due.BAD);
        due.is("sheet(0, 1, -1)", x.sheet(0, 1, -1), Due.SIZE);
        due.is("sheet(0, 2, -1)", x.sheet(0, 2, -1), Due.BAD);
        due.is("sheet(0, -2, 1)", x.sheet(0, -2, 1), Due.BAD);
        due.is("sheet(4, 0, -1)", x.sheet(4, 0, -1), Due.BAD);
        due.is("sheet(-1, 0, 1)", x.sheet(-1, 0, 1), Due.BAD);
        due.is("it is as it was", x.mark(0, 23, 7), 1);
        due.is("sheet(0, 0, 3)", x.sheet(0, 0, 3), 3);
        holds(x, 0, 0, 0, 0);
        due.is("sheet(0, 0, 24)", x.sheet(0, 0, 24), 24);
        x.lay(0, 2, 0);
        due.is("all 0", x.item(0, 23), 0);
        due.is("sheet(0, 1, 0)", x.sheet(0, 1, 0), 0);
        holds(x, 0);
        due.is("sheet(3, -1, 99)", x.sheet(3, -1, 99), 0);
        due.is("sheet(0, -1, -9)", x.sheet(0, -1, -9), 0);
        due.is("MISSING", x.reads(0), Due.NOTHING);
        due.is("sheet(4, -1, 0)", x.sheet(4, -1, 0), Due.BAD);
    }

    private static void mark() {
        due.promise(29);
        BeggarCorners x = sheets();
        due.is("mark(0, 0, 32768)", x.mark(0, 0, 32768), 1);
        due.is("mark(0, 1, 65535)", x.mark(0, 1, 65535), 1);
        due.is("mark(0, 2, -32769)", x.mark(0, 2, -32769), 1);
        due.is("mark(0, 3, 65536 and 7)", x.mark(0, 3, 65543), 1);
        holds(x, 0, -32768, -1, 32767, 7, 5);
        due.is("mark(0, 0, NONE)", x.mark(0, 0, Due.NONE), Due.KIND);
        due.is("mark(1, 0, 99999)", x.mark(1, 0, 99999), 1);
        due.is("mark(1, 1, -99999)", x.mark(1, 1, -99999), 1);
        due.is("mark(1, 2, NONE)", x.mark(1, 2, Due.NONE), 1);
        due.is("mark(1, 3, 100000)", x.mark(1, 3, 100000), Due.BAD);
        due.is("mark(1, 3, -100000)", x.mark(1, 3, -100000), Due.BAD);
        holds(x, 1, 99999, -99999, Due.KIND, 40, 50);
        due.is("mark(1, 5, 100000)", x.mark(1, 5, 100000), Due.INDEX);
        due.is("mark(0, 5, NONE)", x.mark(0, 5, Due.NONE), Due.INDEX);
        due.is("mark(0, -1, 0)", x.mark(0, -1, 0), Due.INDEX);
        due.is("mark(2, 0, 0)", x.mark(2, 0, 0), Due.NOTHING);
        due.is("mark(2, -1, 0)", x.mark(2, -1, 0), Due.NOTHING);
        due.is("mark(4, 0, 0)", x.mark(4, 0, 0), Due.BAD);
        due.is("mark(-1, 0, 0)", x.mark(-1, 0, 0), Due.BAD);
    }

    private static void pour() {
        due.promise(30);
        BeggarCorners x = new BeggarCorners();
        x.rent(2, 4);
        x.rent(7, 6);
        x.sheet(0, 1, 4);
        int[] places = {-3, 12, Due.NONE, 5};
        for (int i = 0; i < 4; i++) {
            x.mark(0, i, places[i]);
        }
        due.is("pour(0)", x.pour(0), 2);
        due.is("pour(0) again", x.pour(0), 0);
        int[] want = {0, 9, 4, 5, 0, 0, 0, 6};
        for (int corner = 0; corner < 8; corner++) {
            due.is("rent of " + corner, x.rent(corner, want[corner]), want[corner]);
        }
        x.sheet(1, 0, 24);
        for (int i = 0; i < 24; i++) {
            x.mark(1, i, 9);
        }
        due.is("pour of more places than corners", x.pour(1), 7);
        due.is("rent of 7", x.rent(7, 0), 9);
        x.sheet(1, 0, 0);
        due.is("pour of no places", x.pour(1), 0);
        due.is("pour(2)", x.pour(2), Due.NOTHING);
        due.is("pour(4)", x.pour(4), Due.BAD);
        due.is("pour(-1)", x.pour(-1), Due.BAD);
    }

    private static void reads() {
        due.promise(31);
        BeggarCorners x = new BeggarCorners();
        x.beggar(0, 1, 0);
        x.beggar(5, 8, 0);
        x.rent(1, 9);
        Due.text(x, "alms 0");
        x.hours(3);
        x.sheet(0, 1, 4);
        due.is("0 is not -27", x.reads(0), 0);
        x.mark(0, 0, -27);
        due.is("no beggar", x.reads(0), 2);
        x.mark(0, 2, Due.NONE);
        due.is("no beggar", x.reads(0), 3);
        x.mark(0, 3, Due.NONE);
        due.is("all", x.reads(0), Due.NONE);
        x.mark(0, 1, 1);
        due.is("1 is not 0", x.reads(0), 1);
        x.mark(0, 0, Due.NONE);
        x.mark(0, 1, Due.NONE);
        due.is("no numbers", x.reads(0), Due.NONE);
        x.sheet(0, 0, 0);
        due.is("no places", x.reads(0), Due.NONE);
        due.is("reads(1)", x.reads(1), Due.NOTHING);
        due.is("reads(4)", x.reads(4), Due.BAD);
        due.is("reads(-1)", x.reads(-1), Due.BAD);
    }

    private static void copy() {
        due.promise(32);
        BeggarCorners x = sheets();
        x.sheet(2, 1, 3);
        x.mark(1, 1, Due.NONE);
        due.is("to another one", x.copy(1, 1, 2, 0, 2), 2);
        holds(x, 2, Due.KIND, 30, 0);
        due.is("to the same, up", x.copy(0, 0, 0, 1, 4), 4);
        holds(x, 0, 1, 1, 2, 3, 4);
        due.is("to the same, down", x.copy(0, 1, 0, 0, 4), 4);
        holds(x, 0, 1, 2, 3, 4, 4);
        due.is("none, from behind the last", x.copy(1, 5, 2, 3, 0), 0);
        due.is("none, from beyond", x.copy(1, 6, 2, 0, 0), Due.INDEX);
        due.is("none, to beyond", x.copy(1, 0, 2, 4, 0), Due.INDEX);
        due.is("too many of the one", x.copy(1, 4, 2, 0, 2), Due.INDEX);
        due.is("too many for the other", x.copy(1, 0, 2, 2, 2), Due.INDEX);
        due.is("from below", x.copy(1, -1, 2, 0, 1), Due.INDEX);
        due.is("to below", x.copy(1, 0, 2, -1, 1), Due.INDEX);
        due.is("fewer than none", x.copy(1, 0, 2, 0, -1), Due.INDEX);
        due.is("as many as there are numbers", x.copy(1, 1, 2, 1, Integer.MAX_VALUE), Due.INDEX);
        due.is("from as far", x.copy(1, Integer.MAX_VALUE, 2, 1, 1), Due.INDEX);
        due.is("not of one sort", x.copy(0, 9, 1, 0, 1), Due.KIND);
        due.is("from a missing one", x.copy(3, 0, 1, 0, 1), Due.NOTHING);
        due.is("to a missing one", x.copy(0, 9, 3, 0, 1), Due.NOTHING);
        due.is("copy(4, ..)", x.copy(4, 0, 3, 0, 1), Due.BAD);
        due.is("copy(.., -1, ..)", x.copy(3, 0, -1, 0, 1), Due.BAD);
        holds(x, 2, Due.KIND, 30, 0);
        holds(x, 0, 1, 2, 3, 4, 4);
    }

    private static void lay() {
        due.promise(33);
        BeggarCorners x = sheets();
        x.beggar(3, 0, 7);
        due.is("lay(0, 1, 0)", x.lay(0, 1, 0), 0);
        due.is("lay(0, 2, 1)", x.lay(0, 2, 1), 1);
        due.is("lay(0, 3, MIN)", x.lay(0, 3, Integer.MIN_VALUE), 2);
        due.is("lay(0, 0, 99)", x.lay(0, 0, 99), 3);
        due.is("lay(0, 0, 0)", x.lay(0, 0, 0), 0);
        due.is("lay(4, 1, 1)", x.lay(4, 1, 1), Due.BAD);
        due.is("lay(4, 1, -1)", x.lay(4, 1, -1), Due.BAD);
        due.is("lay(4, 2, 4)", x.lay(4, 2, 4), Due.BAD);
        due.is("lay(4, 2, -1)", x.lay(4, 2, -1), Due.BAD);
        due.is("lay(4, 2, 3)", x.lay(4, 2, 3), Due.NOTHING);
        due.is("lay(4, 4, 0)", x.lay(4, 4, 0), Due.BAD);
        due.is("lay(4, -1, 0)", x.lay(4, -1, 0), Due.BAD);
        due.is("lay(5, 0, 0)", x.lay(5, 0, 0), Due.BAD);
        due.is("lay(-1, 2, 3)", x.lay(-1, 2, 3), Due.BAD);
        due.is("it still holds nothing", x.lay(4, 3, 5), 0);
        x.lay(1, 2, 0);
        x.mark(0, 0, 77);
        due.is("a row of its own", x.item(1, 0), 1);
        x.sheet(0, -1, 0);
        due.is("though the sheet is missing", x.item(1, 4), 5);
        due.is("refused, it holds what it held", x.lay(1, 2, 0), Due.NOTHING);
        due.is("a row of its own", x.item(1, 4), 5);
    }

    private static void ask() {
        due.promise(34);
        BeggarCorners x = sheets();
        int[] worths = {10, 16, 89, 32, 81, 5};
        int[] above = {-1, 0, 0, 1, 2, 0};
        for (int kind = 0; kind < 6; kind++) {
            x.beggar(kind, 0, 10);
            x.lay(0, 1, kind);
            for (int as = 0; as < 6; as++) {
                boolean is = as == 0 || as == kind || as == above[kind];
                due.is("ask of " + kind + " as " + as, x.ask(0, as), is ? worths[kind] : Due.KIND);
            }
        }
        x.lay(0, 1, 3);
        x.set(3, 2, 0);
        x.turns(3, 5);
        x.keep();
        x.back();
        due.is("as it was then, for good", x.ask(0, 3), 32);
        x.lay(1, 2, 0);
        x.lay(2, 3, 0);
        due.is("a sheet", x.ask(1, 0), Due.KIND);
        due.is("a number", x.ask(2, 0), Due.KIND);
        due.is("nothing", x.ask(3, 0), Due.NOTHING);
        due.is("ask(3, 6)", x.ask(3, 6), Due.BAD);
        due.is("ask(3, -1)", x.ask(3, -1), Due.BAD);
        due.is("ask(5, 0)", x.ask(5, 0), Due.BAD);
        due.is("ask(-1, 0)", x.ask(-1, 0), Due.BAD);
    }

    private static void item() {
        due.promise(35);
        BeggarCorners x = sheets();
        x.beggar(0, 0, 0);
        x.mark(1, 2, Due.NONE);
        x.lay(0, 2, 1);
        due.is("item(0, 0)", x.item(0, 0), 10);
        due.is("item(0, 4)", x.item(0, 4), 50);
        due.is("no number", x.item(0, 2), Due.KIND);
        due.is("item(0, 5)", x.item(0, 5), Due.INDEX);
        due.is("item(0, -1)", x.item(0, -1), Due.INDEX);
        x.lay(1, 1, 0);
        x.lay(2, 3, 0);
        due.is("a beggar", x.item(1, -1), Due.KIND);
        due.is("a number", x.item(2, 0), Due.KIND);
        due.is("nothing", x.item(3, -1), Due.NOTHING);
        due.is("item(5, 0)", x.item(5, 0), Due.BAD);
        due.is("item(-1, 0)", x.item(-1, 0), Due.BAD);
    }

    private static void rest() {
        due.promise(36);
        BeggarCorners x = sheets();
        x.beggar(0, 0, 0);
        x.lay(0, 3, -11);
        due.is("rest(0, 4)", x.rest(0, 4), -3);
        due.is("rest(0, -4)", x.rest(0, -4), -3);
        due.is("rest(0, 12)", x.rest(0, 12), -11);
        due.is("rest(0, 0)", x.rest(0, 0), Due.NO);
        x.lay(0, 3, Integer.MIN_VALUE);
        due.is("rest of the least by -1", x.rest(0, -1), 0);
        x.lay(1, 1, 0);
        x.lay(2, 2, 0);
        due.is("a beggar", x.rest(1, 0), Due.KIND);
        due.is("a sheet", x.rest(2, 1), Due.KIND);
        due.is("nothing", x.rest(3, 0), Due.NOTHING);
        due.is("rest(5, 0)", x.rest(5, 0), Due.BAD);
        due.is("rest(-1, 1)", x.rest(-1, 1), Due.BAD);
    }
}
