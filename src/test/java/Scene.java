import java.util.ArrayList;
import java.util.List;

/** Objects in which every call finds something, and all that can be seen of one. */
final class Scene {
    /** Who stands where: 0 BEGGAR at 1, 1 PROUD at home, 2 CHILD at 3, 3 SINGING at home, 4 FALSE at 5. */
    private static final int[][] FIVE = {{0, 1, 10}, {5, 8, 0}, {2, 3, 20}, {3, 8, 7}, {4, 5, 3}};
    private static final int[][] THREE_MORE = {{0, 8, 1}, {1, 8, 2}, {2, 7, 3}};
    private static final int MOST_ITEMS = 6;

    private final BeggarCorners x;
    private final List<String> seen = new ArrayList<>();

    private Scene(BeggarCorners x) {
        this.x = x;
    }

    // ---- the scenes

    /** Five beggars with purses and hats, and a text of each key: by them nobody here is given anything more. */
    private static BeggarCorners street() {
        BeggarCorners x = new BeggarCorners();
        for (int[] b : FIVE) {
            x.beggar(b[0], b[1], b[2]);
        }
        x.rent(1, 4);
        x.rent(3, 2);
        x.rent(7, 9);
        x.rule(0, 30);
        x.rule(2, 6);
        x.hours(9);
        Due.text(x, "fine p*2-h");
        Due.text(x, "alms 0");
        Due.text(x, "fee h+1");
        return x;
    }

    /** Sheets: 0 of shorts, 1 of floats with NO NUMBER at 2, 2 of no places, 3 missing. Slots: 0 a beggar,
        1 sheet 1, 2 a number, 3 sheet 2, 4 nothing. */
    private static void layOut(BeggarCorners x) {
        x.sheet(0, 0, 4);
        x.sheet(1, 1, 5);
        x.sheet(2, 1, 0);
        for (int place = 0; place < 4; place++) {
            x.mark(0, place, 3 - place);
            x.mark(1, place, place == 2 ? Due.NONE : -7 * place);
        }
        x.lay(0, 1, 3);
        x.lay(1, 2, 1);
        x.lay(2, 3, -11);
        x.lay(3, 2, 2);
    }

    /** All as on the street, with an image or without one, and what has come since: other rents and rules, two hours. */
    private static BeggarCorners later(boolean keeps) {
        BeggarCorners x = street();
        layOut(x);
        if (keeps) {
            x.keep();
        }
        x.rent(1, 5);
        x.rent(3, 3);
        x.rule(0, 0);
        x.rule(2, 8);
        x.hours(2);
        x.seed(77);
        return x;
    }

    private static void tellHours(BeggarCorners x, int n) {
        BeggarCorners y = street();
        for (int i = 1; i <= n; i++) {
            x.tell(y.behind(i, 0));
            x.tell(y.behind(i, 2));
        }
    }

    static BeggarCorners empty() {
        return new BeggarCorners();
    }

    private static BeggarCorners lively(boolean keeps) {
        BeggarCorners x = later(keeps);
        tellHours(x, 2);
        Due.tape(x, "fee 12+h    ");
        return x;
    }

    /** An image and what has come since; four numbers that wait, as check has them; 12 bytes on the tape. */
    static BeggarCorners lively() {
        return lively(true);
    }

    static BeggarCorners withoutImage() {
        return lively(false);
    }

    /** As lively, but with eight beggars, 14 texts, 60 numbers that wait and 96 bytes on the tape. */
    static BeggarCorners crowded() {
        BeggarCorners x = later(true);
        for (int[] b : THREE_MORE) {
            x.beggar(b[0], b[1], b[2]);
        }
        for (int text = 3; text < 14; text++) {
            Due.text(x, "fee " + text);
        }
        tellHours(x, 30);
        Due.tape(x, "fee 12+h" + " ".repeat(88));
        return x;
    }

    // ---- all that can be seen

    /**
     * All that can be seen of an object, a line for each answer, its image's too; what is on the
     * tape begins with "tape", numbers that wait with "waiting". The object changes by it.
     */
    static List<String> seen(BeggarCorners x) {
        Scene s = new Scene(x);
        s.seeState("now");
        s.seeSlots();
        s.seeSheets();
        s.see("waiting: check", x.check(Math.max(1, x.count(6) / 2)));
        s.seeRents("now");
        s.see("back", x.back());
        s.seeState("image");
        s.seeRents("image");
        s.see("tape: text", x.text());
        s.see("tape: fee", x.fee());
        return s.seen;
    }

    private void see(String what, int answer) {
        seen.add(what + " " + answer);
    }

    private void seeState(String when) {
        for (int what = 0; what < 9; what++) {
            String of = what == 6 ? "waiting: " : what == 7 ? "tape: " : "";
            see(of + when + " count " + what, x.count(what));
        }
        for (int what = 0; what < 5; what++) {
            see(when + " guild " + what, x.guild(what));
        }
        for (int b = 0; b < x.count(0); b++) {
            for (int what = 0; what < 7; what++) {
                see(when + " told " + b + " " + what, x.told(b, what));
            }
            see(when + " fine " + b, x.fine(b));
            see(when + " given " + b, x.given(b, 9, 7, 9));
        }
        for (int text = 0; text < x.count(5); text++) {
            see(when + " KEY of " + text, x.textTold(text, 0));
            see(when + " pieces of " + text, x.textTold(text, 1));
        }
        for (int key = 0; key < 3; key++) {
            see(when + " why " + key, x.why(key));
        }
        see(when + " fee", x.fee());
    }

    private void seeRents(String when) {
        for (int corner = 0; corner < 8; corner++) {
            see(when + " rent " + corner, x.rent(corner, 0));
        }
    }

    private void seeItems(String of, int slot) {
        for (int place = 0; place < MOST_ITEMS; place++) {
            see(of + " item " + place, x.item(slot, place));
        }
    }

    private void seeSlots() {
        for (int slot = 0; slot < 5; slot++) {
            see("slot " + slot + " ask", x.ask(slot, 0));
            see("slot " + slot + " rest", x.rest(slot, Integer.MAX_VALUE));
            seeItems("slot " + slot, slot);
        }
    }

    /** The sort of a sheet is told by whether it takes NO NUMBER. */
    private void seeSheets() {
        for (int sheet = 0; sheet < 4; sheet++) {
            see("sheet " + sheet + " lay", x.lay(0, 2, sheet));
            seeItems("sheet " + sheet, 0);
            see("sheet " + sheet + " takes no number", x.mark(sheet, 0, Due.NONE));
        }
    }
}
