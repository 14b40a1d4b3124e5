/** Promises 23 to 27: the tape and the texts. */
public final class TextsTest {
    private static final Due due = new Due();

    public static void main(String[] args) {
        feed();
        trim();
        text();
        faults();
        limits();
        values();
        full();
        textTold();
        why();
        due.end();
    }

    private static void feed() {
        due.promise(23);
        BeggarCorners x = new BeggarCorners();
        for (int i = 1; i <= 8; i++) {
            due.is("feed, time " + i, x.feed(0x66656520, 0x20202020, 0x20202020), 12 * i);
        }
        due.is("the ninth", x.feed(0, 0, 0), Due.FULL);
        due.is("bytes", x.count(7), 96);
        x.trim(84);
        due.is("just room enough", x.feed(0, 0, 0), 96);
        x.trim(85);
        due.is("a byte too much", x.feed(0, 0, 0), Due.FULL);
        due.is("bytes", x.count(7), 85);
        x = new BeggarCorners();
        x.feed(0x66656520, 0x31323334, 0x2b31302a);
        x.trim(11);
        due.is("the highest byte of each first", x.text(), 0);
        due.is("fee 1234+10", x.fee(), 1244);
        x.feed(-1, 0x80808080, 0);
        due.is("bytes above 127 are signs", x.text(), -100);
    }

    private static void trim() {
        due.promise(24);
        BeggarCorners x = new BeggarCorners();
        due.is("trim(0)", x.trim(0), 0);
        due.is("trim(1) of none", x.trim(1), Due.BAD);
        x.feed(0x66656520, 0x31323334, 0);
        due.is("trim(13)", x.trim(13), Due.BAD);
        due.is("trim(-1)", x.trim(-1), Due.BAD);
        due.is("trim(12)", x.trim(12), 12);
        due.is("trim(6)", x.trim(6), 6);
        due.is("trim(7)", x.trim(7), Due.BAD);
        due.is("bytes", x.count(7), 6);
        x.text();
        due.is("fee 12", x.fee(), 12);
    }

    private static void text() {
        due.promise(25);
        BeggarCorners x = new BeggarCorners();
        String[] good = {"alms c", "   fee   c   ", "fine(p)", "fee!c", "alms c&g|s<1", "fee 0012", "alms  c+g-s*c/g",
            "fine p<h&p>h|p=h", "fee c<h&c<h", "fee (c<h)<(c<h)", "fee !(c)", "fee c*!h", "fee c<!h"};
        for (int i = 0; i < good.length; i++) {
            due.is(good[i], Due.text(x, good[i]), i);
            due.is("the tape is used up", x.count(7), 0);
        }
        due.is("texts", x.count(5), good.length);
    }

    private static void fault(String bytes, int place) {
        BeggarCorners x = new BeggarCorners();
        due.is("'" + bytes + "'", Due.text(x, bytes), -100 - place);
        due.is("the tape is used up", x.count(7), 0);
        due.is("no text came", x.count(5), 0);
    }

    private static void faults() {
        fault("", 0);
        fault("   ", 3);
        fault("alm c", 0);
        fault("  almsc", 2);
        fault("Fee c", 0);
        fault("(fee c)", 0);
        fault("5", 0);
        fault("feez c", 0);
        fault("afee c", 0);
        fault("tee c", 0);
        fault("fea c", 0);
        fault("fe c", 0);
        fault("fines p", 0);
        fault("fee", 3);
        fault("fee  ", 5);
        fault("fee c+", 6);
        fault("fee c+  ", 8);
        fault("fee (c", 6);
        fault("fee !", 5);
        fault("fee5", 3);
        fault("fee 5c", 5);
        fault("fee 5 c", 6);
        fault("fee c5", 5);
        fault("fee 5 5", 6);
        fault("fee 12345", 4);
        fault("fee c+12345", 6);
        fault("fee 1+ch", 6);
        fault("fee g", 4);
        fault("fee p", 4);
        fault("alms h", 5);
        fault("alms p", 5);
        fault("fine c", 5);
        fault("fine s", 5);
        fault("fee -c", 4);
        fault("fee c+-h", 6);
        fault("fee c<h<c", 7);
        fault("fee c=h>c", 7);
        fault("fee (c<h=c)", 8);
        fault("fee c<=h", 6);
        fault("fee ()", 5);
        fault("fee c)", 5);
        fault("fee (c))", 7);
        fault("fee c!", 5);
        fault("fee c !h", 6);
        fault("fee c(h)", 5);
        fault("fee c||h", 6);
        fault("fee c\th", 5);
        fault("fee c\0", 5);
        fault("fee C", 4);
        fault("fee c fee", 6);
        fault("fee fee", 4);
    }

    private static void limits() {
        fault("fee " + "(".repeat(9) + "c", 12);
        fault("fee " + "(".repeat(9), 12);
        fault("fee " + "(".repeat(8), 12);
        fault("fee " + "!".repeat(9) + "c", 12);
        fault("fee (((((((c)+(c))))))+((((((((c)", 30);
        fault("fee (((((((c)+(((c", 16);
        fault("fee !(!(!(!(!!!!(!c)))))", 17);
        fault("fee !!!!!!!!(!c)", 13);
        BeggarCorners x = new BeggarCorners();
        due.is("eight open", Due.text(x, "fee " + "(".repeat(8) + "c" + ")".repeat(8)), 0);
        due.is("nine, not all open at once", Due.text(x, "fee ((((((((c)))))))+(c))"), 1);
        due.is("eight nots", Due.text(x, "fee " + "!".repeat(8) + "c"), 2);
        due.is("sixteen nots, not all open at once", Due.text(x, "fee " + "!".repeat(8) + "c+" + "!".repeat(8) + "c"), 3);
        due.is("eight of each", Due.text(x, "fee " + "!(".repeat(8) + "c" + ")".repeat(8)), 4);
        due.is("96 bytes", Due.text(x, "fee " + "c+".repeat(45) + "10"), 5);
        due.is("operands of it", x.textTold(5, 1), 46);
    }

    private static void value(String e, int want) {
        BeggarCorners x = new BeggarCorners();
        x.beggar(0, 0, 0);
        for (int i = 0; i < 7; i++) {
            x.hours(1);
        }
        due.is("fee " + e, Due.text(x, "fee " + e), 0);
        due.is("fee " + e, x.fee(), want);
    }

    private static void values() {
        value("h", 7);
        value("c", 0);
        value("1+2*3", 7);
        value("(1+2)*3", 9);
        value("10-3-2", 5);
        value("100/7/2", 7);
        value("7/2*2", 6);
        value("(0-7)/2", -3);
        value("7/0", 0);
        value("7/(3-3)+1", 1);
        value("9999*9999*9999", 9999 * 9999 * 9999);
        value("(0-2)*(8192*8192*16)/(0-1)", Integer.MIN_VALUE);
        value("1<2", 1);
        value("2<1", 0);
        value("2>1", 1);
        value("2=2", 1);
        value("2=1", 0);
        value("1+1=2", 1);
        value("2<2", 0);
        value("2>2", 0);
        value("1&3", 1);
        value("3&1", 1);
        value("0&3", 0);
        value("1|0", 1);
        value("0|1", 1);
        value("5&3", 1);
        value("5&0", 0);
        value("5|0", 1);
        value("0|0", 0);
        value("0|0&1|7", 1);
        value("1|1&0", 1);
        value("(1|1)&0", 0);
        value("1<2&3<2", 0);
        value("1<2|3<2", 1);
        value("!5", 0);
        value("!0", 1);
        value("!!5", 1);
        value("!0*7", 7);
        value("!0+7", 8);
        value("!(0+7)", 0);
        value("5", 5);
        value("0005", 5);
        value("!1=0", 1);
    }

    private static void full() {
        due.promise(25);
        BeggarCorners x = new BeggarCorners();
        for (int i = 0; i < 14; i++) {
            due.is("text " + i, Due.text(x, "fee " + i), i);
        }
        due.is("the fifteenth", Due.text(x, "fee 99"), Due.FULL);
        due.is("the tape is used up", x.count(7), 0);
        due.is("a fault ahead of FULL", Due.text(x, "fee +"), -104);
        due.is("texts", x.count(5), 14);
        due.is("the last that came counts", x.fee(), 13);
    }

    private static void textTold() {
        due.promise(26);
        BeggarCorners x = new BeggarCorners();
        due.is("textTold(0, 0)", x.textTold(0, 0), Due.BAD);
        Due.text(x, "fine p+p*(12-!h)");
        Due.text(x, "alms 7");
        Due.text(x, "fee c|h");
        int[][] want = {{2, 4}, {0, 1}, {1, 2}};
        for (int text = 0; text < 3; text++) {
            for (int what = 0; what < 2; what++) {
                due.is("textTold(" + text + ", " + what + ")", x.textTold(text, what), want[text][what]);
            }
        }
        due.is("textTold(3, 0)", x.textTold(3, 0), Due.BAD);
        due.is("textTold(-1, 0)", x.textTold(-1, 0), Due.BAD);
        due.is("textTold(0, 2)", x.textTold(0, 2), Due.BAD);
        due.is("textTold(0, -1)", x.textTold(0, -1), Due.BAD);
        x.keep();
        Due.text(x, "fee 1+1");
        due.is("textTold(3, 1)", x.textTold(3, 1), 2);
        x.back();
        due.is("textTold(3, 1) of one that is gone", x.textTold(3, 1), Due.BAD);
    }

    private static void why() {
        due.promise(27);
        BeggarCorners x = new BeggarCorners();
        due.is("why(0)", x.why(0), Due.NONE);
        Due.text(x, "alms 1");
        due.is("why(0)", x.why(0), 0);
        Due.text(x, "fine 1");
        Due.text(x, "alms 2");
        Due.text(x, "alms +");
        due.is("why(0)", x.why(0), 2);
        due.is("why(1)", x.why(1), Due.NONE);
        due.is("why(2)", x.why(2), 1);
        due.is("why(3)", x.why(3), Due.BAD);
        due.is("why(-1)", x.why(-1), Due.BAD);
    }
}
