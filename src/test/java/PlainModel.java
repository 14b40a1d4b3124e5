import java.util.ArrayList;
import java.util.List;

/**
 * The document said a second time, in another way and without care for room or speed: kinds as
 * classes, texts worked out by splitting them at their loosest operator, faults found by what may
 * come next. ModelTest holds the class against it.
 */
final class PlainModel {
    static final int BAD = -1000000001, NO = -1000000002, FULL = -1000000003, NONE = -1000000005,
            NOTHING = -1000000011, KIND = -1000000012, INDEX = -1000000013, SIZE = -1000000014;

    // ---- kinds

    interface Alms {
        int of(int c, int g, int s);
    }

    static class Beggar implements Cloneable {
        int kind, corner, skill, purse, hats;

        int given(Alms alms, int c, int m, int g, boolean wet) {
            return Math.max(0, Math.min(99, alms.of(c, g, skill)));
        }

        int worth() {
            return skill;
        }

        Beggar copy() {
            try {
                return (Beggar) clone();
            } catch (CloneNotSupportedException e) {
                throw new IllegalStateException(e);
            }
        }
    }

    static class Blind extends Beggar {
        @Override int given(Alms alms, int c, int m, int g, boolean wet) {
            return super.given(alms, c, m, g, wet) + m / 3;
        }

        @Override int worth() {
            return super.worth() + 6;
        }
    }

    static class Singing extends Blind {
        @Override int given(Alms alms, int c, int m, int g, boolean wet) {
            int blind = super.given(alms, c, m, g, wet);
            return wet ? blind / 2 : blind;
        }

        @Override int worth() {
            return 2 * super.worth();
        }
    }

    static class Child extends Beggar {
        @Override int given(Alms alms, int c, int m, int g, boolean wet) {
            return (m >= 5 ? 2 : 1) * super.given(alms, c, m, g, wet);
        }

        @Override int worth() {
            return 99 - skill;
        }
    }

    static class False extends Child {
        @Override int given(Alms alms, int c, int m, int g, boolean wet) {
            return m >= 8 ? 0 : super.given(alms, c, m, g, wet);
        }

        @Override int worth() {
            return super.worth() - 8;
        }
    }

    static class Proud extends Beggar {
        @Override int given(Alms alms, int c, int m, int g, boolean wet) {
            return g < 3 ? 0 : Math.max(0, super.given(alms, c, m, g, wet) - 1);
        }

        @Override int worth() {
            return 5;
        }
    }

    static Beggar fresh(int kind) {
        Beggar b = switch (kind) {
            case 1 -> new Blind();
            case 2 -> new Child();
            case 3 -> new Singing();
            case 4 -> new False();
            case 5 -> new Proud();
            default -> new Beggar();
        };
        b.kind = kind;
        return b;
    }

    static boolean isA(Beggar b, int kind) {
        return fresh(kind).getClass().isInstance(b);
    }

    // ---- texts

    record Token(String word, int at, boolean glued) {
    }

    static List<Token> tokens(String s) {
        List<Token> all = new ArrayList<>();
        int i = 0;
        boolean wordBefore = false;
        while (i < s.length()) {
            char ch = s.charAt(i);
            if (ch == ' ') {
                wordBefore = false;
                i++;
                continue;
            }
            String range = ch >= 'a' && ch <= 'z' ? "[a-z]" : ch >= '0' && ch <= '9' ? "[0-9]" : null;
            int j = i + 1;
            while (range != null && j < s.length() && s.substring(j, j + 1).matches(range)) {
                j++;
            }
            all.add(new Token(s.substring(i, j), i, range != null && wordBefore));
            wordBefore = range != null;
            i = j;
        }
        return all;
    }

    static final List<String> KEYS = List.of("alms", "fee", "fine");
    static final List<String> NAMES = List.of("cgs", "ch", "ph");

    /** What is open around the place that has been reached: a parenthesis or a not. */
    static final class Open {
        final boolean paren;
        boolean compared = false;

        Open(boolean paren) {
            this.paren = paren;
        }
    }

    static int faultOf(String s) {
        List<Token> all = tokens(s);
        if (all.isEmpty()) {
            return s.length();
        }
        int key = KEYS.indexOf(all.get(0).word);
        if (key < 0) {
            return all.get(0).at;
        }
        List<Open> open = new ArrayList<>();
        open.add(new Open(true));
        boolean operandDue = true;
        for (Token t : all.subList(1, all.size())) {
            String w = t.word;
            if (t.glued) {
                return t.at;
            }
            if (operandDue) {
                if (w.matches("[0-9]{1,4}") || (w.length() == 1 && NAMES.get(key).contains(w))) {
                    operandDue = false;
                    closeNots(open);
                } else if (w.equals("!") && open.stream().filter(o -> !o.paren).count() < 8) {
                    open.add(new Open(false));
                } else if (w.equals("(") && open.stream().filter(o -> o.paren).count() < 9) {
                    open.add(new Open(true));
                } else {
                    return t.at;
                }
                continue;
            }
            Open inner = open.get(open.size() - 1);
            if (w.equals(")") && open.size() > 1) {
                open.remove(open.size() - 1);
                closeNots(open);
            } else if (w.equals("|") || w.equals("&")) {
                inner.compared = false;
                operandDue = true;
            } else if ("<=>".contains(w) && !inner.compared) {
                inner.compared = true;
                operandDue = true;
            } else if ("+-*/".contains(w)) {
                operandDue = true;
            } else {
                return t.at;
            }
        }
        return operandDue || open.size() > 1 ? s.length() : -1;
    }

    static void closeNots(List<Open> open) {
        while (!open.get(open.size() - 1).paren) {
            open.remove(open.size() - 1);
        }
    }

    static final class Law {
        final int key;
        final int pieces;
        final List<String> words = new ArrayList<>();

        Law(String s) {
            List<Token> all = tokens(s);
            key = KEYS.indexOf(all.get(0).word);
            int n = 0;
            for (Token t : all.subList(1, all.size())) {
                words.add(t.word);
                if (Character.isLetterOrDigit(t.word.charAt(0))) {
                    n++;
                }
            }
            pieces = n;
        }

        int value(int... names) {
            return value(words, names);
        }

        private int value(List<String> e, int[] names) {
            for (String level : List.of("|", "&", "<=>", "+-", "*/")) {
                int depth = 0;
                for (int i = e.size() - 1; i > 0; i--) {
                    String w = e.get(i);
                    depth += w.equals(")") ? 1 : w.equals("(") ? -1 : 0;
                    if (depth == 0 && level.contains(w)) {
                        return join(w, value(e.subList(0, i), names), value(e.subList(i + 1, e.size()), names));
                    }
                }
            }
            String w = e.get(0);
            if (w.equals("!")) {
                return value(e.subList(1, e.size()), names) == 0 ? 1 : 0;
            }
            if (w.equals("(")) {
                return value(e.subList(1, e.size() - 1), names);
            }
            return Character.isDigit(w.charAt(0)) ? Integer.parseInt(w) : names[NAMES.get(key).indexOf(w)];
        }

        private static int join(String w, int x, int y) {
            return switch (w) {
                case "|" -> x != 0 || y != 0 ? 1 : 0;
                case "&" -> x != 0 && y != 0 ? 1 : 0;
                case "<" -> x < y ? 1 : 0;
                case "=" -> x == y ? 1 : 0;
                case ">" -> x > y ? 1 : 0;
                case "+" -> (int) ((long) x + y);
                case "-" -> (int) ((long) x - y);
                case "*" -> (int) ((long) x * y);
                default -> y == 0 ? 0 : (int) ((long) x / y);
            };
        }
    }

    // ---- the street

    static final class State {
        final int[] rents = new int[8];
        final List<Beggar> beggars = new ArrayList<>();
        final List<Law> laws = new ArrayList<>();
        int rain = 20, funeral = 8, chest, hour, z = 1;
        boolean wet;

        State copy() {
            State s = new State();
            System.arraycopy(rents, 0, s.rents, 0, 8);
            for (Beggar b : beggars) {
                s.beggars.add(b.copy());
            }
            s.laws.addAll(laws);
            s.rain = rain;
            s.funeral = funeral;
            s.chest = chest;
            s.hour = hour;
            s.z = z;
            s.wet = wet;
            return s;
        }

        int lastLaw(int key) {
            int last = -1;
            for (int i = 0; i < laws.size(); i++) {
                last = laws.get(i).key == key ? i : last;
            }
            return last;
        }

        int alms(int c, int g, int s) {
            int law = lastLaw(0);
            return law < 0 ? c * g / 9 + s / 5 : laws.get(law).value(c, g, s);
        }

        int draw(int by) {
            z = z * 1103515245 + 12345;
            return (z >>> 8) % by;
        }

        void hour() {
            if (draw(100) < rain) {
                wet = !wet;
            }
            for (Beggar b : beggars) {
                if (b.corner < 8) {
                    b.purse -= rents[b.corner];
                    chest += rents[b.corner];
                }
            }
            int many = wet ? 2 : 3;
            for (int i = 0; i < many; i++) {
                int from = draw(8), to = draw(8), c = 1 + draw(9), m = draw(10);
                passer(from, to, c, m);
            }
            if (funeral < 8) {
                passer(funeral, funeral, 9, 9);
            }
            hour++;
        }

        void passer(int from, int to, int c, int m) {
            List<Integer> way = new ArrayList<>();
            int at = from;
            way.add(at);
            while (at != to) {
                at += Integer.signum(to - at);
                way.add(at);
            }
            int g = 9;
            for (int corner : way) {
                for (Beggar b : beggars) {
                    if (b.corner == corner) {
                        int gift = b.given(this::alms, c, m, g, wet);
                        b.purse += gift;
                        if (gift > 0) {
                            b.hats++;
                            g = Math.max(0, g - 3);
                        }
                    }
                }
            }
        }

        State after(int n) {
            State s = copy();
            for (int i = 0; i < n; i++) {
                s.hour();
            }
            return s;
        }

        int purses() {
            return beggars.stream().mapToInt(b -> b.purse).sum();
        }

        int hats() {
            return beggars.stream().mapToInt(b -> b.hats).sum();
        }

        int against() {
            int set = 0;
            for (int i = 0; i < beggars.size(); i++) {
                for (int j = i + 1; j < beggars.size(); j++) {
                    Beggar a = beggars.get(i), b = beggars.get(j);
                    boolean out = a.corner < 8 && b.corner < 8;
                    boolean near = Math.abs(a.corner - b.corner) <= 1 && a.kind == b.kind;
                    if (out && (near || a.corner == b.corner)) {
                        set |= 1 << j;
                    }
                }
            }
            return set;
        }
    }

    // ---- the calls

    static final class Row {
        final int sort;
        final Integer[] at;

        Row(int sort, int n) {
            this.sort = sort;
            at = new Integer[n];
            java.util.Arrays.fill(at, 0);
        }

        Row copy() {
            Row r = new Row(sort, at.length);
            System.arraycopy(at, 0, r.at, 0, at.length);
            return r;
        }
    }

    private State s = new State();
    private State image = null;
    private String tape = "";
    private final Row[] sheets = new Row[4];
    private final Object[] slots = new Object[5];
    private final List<Integer> waiting = new ArrayList<>();

    private static boolean out(int v, int low, int high) {
        return v < low || v > high;
    }

    private boolean noBeggar(int b) {
        return out(b, 0, s.beggars.size() - 1);
    }

    public int beggar(int kind, int corner, int skill) {
        if (out(kind, 0, 5) || out(corner, 0, 8) || out(skill, 0, 20)) return BAD;
        if (s.beggars.size() == 8) return FULL;
        Beggar b = fresh(kind);
        b.corner = corner;
        b.skill = skill;
        s.beggars.add(b);
        return s.beggars.size() - 1;
    }

    public int told(int beggar, int what) {
        if (noBeggar(beggar) || out(what, 0, 6)) return BAD;
        Beggar b = s.beggars.get(beggar);
        return new int[] {b.kind, b.corner, b.skill, b.purse, b.hats, s.against() >> beggar & 1, b.worth()}[what];
    }

    public int given(int beggar, int c, int m, int g) {
        if (noBeggar(beggar) || out(c, 1, 9) || out(m, 0, 9) || out(g, 0, 9)) return BAD;
        return s.beggars.get(beggar).given(s::alms, c, m, g, s.wet);
    }

    public int as(int beggar, int kind) {
        if (noBeggar(beggar) || out(kind, 0, 5)) return BAD;
        return isA(s.beggars.get(beggar), kind) ? s.beggars.get(beggar).skill : KIND;
    }

    public int turns(int beggar, int kind) {
        if (noBeggar(beggar) || out(kind, 0, 5)) return BAD;
        Beggar old = s.beggars.get(beggar), b = fresh(kind);
        b.corner = old.corner;
        b.skill = old.skill;
        b.purse = old.purse;
        b.hats = old.hats;
        s.beggars.set(beggar, b);
        return old.kind;
    }

    public int set(int beggar, int what, int v) {
        if (noBeggar(beggar) || out(what, 1, 2) || out(v, 0, what == 1 ? 8 : 20)) return BAD;
        Beggar b = s.beggars.get(beggar);
        int was = what == 1 ? b.corner : b.skill;
        if (what == 1) b.corner = v; else b.skill = v;
        return was;
    }

    public int rent(int corner, int v) {
        if (out(corner, 0, 7) || out(v, 0, 9)) return BAD;
        int was = s.rents[corner];
        s.rents[corner] = v;
        return was;
    }

    public int rule(int what, int v) {
        if (out(what, 0, 2) || out(v, 0, new int[] {100, 1, 8}[what])) return BAD;
        int was = count(2 + what);
        if (what == 0) s.rain = v;
        if (what == 1) s.wet = v == 1;
        if (what == 2) s.funeral = v;
        return was;
    }

    public int deal(int n) {
        if (out(n, 1, 8)) return BAD;
        int came = 0;
        while (came < n && s.beggars.size() < 8) {
            int kind = s.draw(6), corner = s.draw(9), skill = s.draw(21);
            beggar(kind, corner, skill);
            came++;
        }
        return came;
    }

    public int seed(int v) {
        int was = s.z;
        s.z = v;
        return was;
    }

    public int hours(int n) {
        if (out(n, 1, 100)) return BAD;
        int before = s.hats();
        for (int i = 0; i < n && s.hour < 9999; i++) s.hour();
        return s.hats() - before;
    }

    public int guild(int what) {
        switch (what) {
            case 0: return s.purses();
            case 1: return s.chest;
            case 2: return s.hats();
            case 3: return s.against();
            case 4: return s.beggars.stream().mapToInt(b -> b.corner < 8 ? 1 << b.corner : 0).reduce(0, (a, b) -> a | b);
            default: return BAD;
        }
    }

    public int behind(int n, int what) {
        if (out(n, 0, 100) || what < 0 || (what > 2 && noBeggar(what - 3))) return BAD;
        State t = s.after(n);
        return what == 0 ? t.purses() : what == 1 ? t.chest : what == 2 ? t.hats() : t.beggars.get(what - 3).purse;
    }

    /** The least place of the greatest value (null: it does not count), or that value. */
    private static int greatest(List<Integer> values, int what) {
        int place = -1;
        for (int i = 0; i < values.size(); i++) {
            if (values.get(i) != null && (place < 0 || values.get(i) > values.get(place))) place = i;
        }
        return place < 0 ? NONE : what == 0 ? place : values.get(place);
    }

    public int best(int beggar, int n, int what) {
        if (noBeggar(beggar) || out(n, 1, 40) || out(what, 0, 1)) return BAD;
        List<Integer> values = new ArrayList<>();
        for (int corner = 0; corner < 9; corner++) {
            State t = s.copy();
            t.beggars.get(beggar).corner = corner;
            values.add(t.after(n).beggars.get(beggar).purse);
        }
        return greatest(values, what);
    }

    public int letting(int n, int what) {
        if (out(n, 1, 4) || out(what, 0, 1)) return BAD;
        if (s.beggars.isEmpty()) return NONE;
        List<Integer> values = new ArrayList<>();
        lettings(s.copy(), 0, n, values);
        return greatest(values, what);
    }

    private void lettings(State t, int beggar, int n, List<Integer> values) {
        if (beggar == 3 || beggar == t.beggars.size()) {
            values.add(t.against() == 0 ? t.after(n).purses() : null);
            return;
        }
        for (int corner = 0; corner < 8; corner++) {
            t.beggars.get(beggar).corner = corner;
            lettings(t, beggar + 1, n, values);
        }
    }

    public int takes(int kind, int corner, int n) {
        if (out(kind, 0, 5) || out(corner, 0, 7) || out(n, 1, 60)) return BAD;
        State t = s.copy();
        Beggar b = fresh(kind);
        b.corner = corner;
        b.skill = 10;
        t.beggars.add(b);
        State then = t.after(n);
        then.beggars.remove(then.beggars.size() - 1);
        return s.after(n).purses() - then.purses();
    }

    public int bestRent(int n, int what) {
        if (out(n, 1, 60) || out(what, 0, 1)) return BAD;
        List<Integer> values = new ArrayList<>();
        for (int v = 0; v < 10; v++) {
            State t = s.copy();
            java.util.Arrays.fill(t.rents, v);
            t = t.after(n);
            values.add(t.beggars.stream().allMatch(b -> b.purse >= 0) ? (Integer) t.chest : null);
        }
        return greatest(values, what);
    }

    public int mourned(int n, int what) {
        if (out(n, 1, 60) || out(what, 0, 1)) return BAD;
        List<Integer> values = new ArrayList<>();
        for (int corner = 0; corner < 8; corner++) {
            State t = s.copy();
            t.funeral = corner;
            values.add(t.after(n).purses());
        }
        return greatest(values, what);
    }

    public int stood(int sheet, int beggar, int what) {
        if (out(sheet, 0, 3) || noBeggar(beggar) || out(what, 0, 1)) return BAD;
        if (sheets[sheet] == null) return NOTHING;
        List<Integer> values = new ArrayList<>();
        for (int corner = 0; corner < 9; corner++) {
            State t = s.copy();
            t.beggars.get(beggar).corner = corner;
            int sum = 0;
            for (int k = 0; k < sheets[sheet].at.length; k++) {
                Integer place = sheets[sheet].at[k];
                sum += place == null ? 0 : Math.abs(t.after(k).beggars.get(beggar).purse - place);
            }
            values.add(-sum);
        }
        return what == 0 ? greatest(values, 0) : -greatest(values, 1);
    }

    public int fee() {
        int law = s.lastLaw(1);
        return law < 0 ? s.chest : s.laws.get(law).value(s.chest, s.hour);
    }

    public int fine(int beggar) {
        if (noBeggar(beggar)) return BAD;
        Beggar b = s.beggars.get(beggar);
        int law = s.lastLaw(2);
        return law < 0 ? b.purse : s.laws.get(law).value(b.purse, b.hats);
    }

    public int feed(int a, int b, int c) {
        if (tape.length() > 84) return FULL;
        java.nio.ByteBuffer bytes = java.nio.ByteBuffer.allocate(12).putInt(a).putInt(b).putInt(c);
        tape += new String(bytes.array(), java.nio.charset.StandardCharsets.ISO_8859_1);
        return tape.length();
    }

    public int trim(int n) {
        if (out(n, 0, tape.length())) return BAD;
        tape = tape.substring(0, n);
        return n;
    }

    public int text() {
        String read = tape;
        tape = "";
        int fault = faultOf(read);
        if (fault >= 0) return -100 - fault;
        if (s.laws.size() == 14) return FULL;
        s.laws.add(new Law(read));
        return s.laws.size() - 1;
    }

    public int textTold(int text, int what) {
        if (out(text, 0, s.laws.size() - 1) || out(what, 0, 1)) return BAD;
        return what == 0 ? s.laws.get(text).key : s.laws.get(text).pieces;
    }

    public int why(int key) {
        if (out(key, 0, 2)) return BAD;
        return s.lastLaw(key) < 0 ? NONE : s.lastLaw(key);
    }

    public int sheet(int sheet, int sort, int n) {
        if (out(sheet, 0, 3) || out(sort, -1, 1) || (sort >= 0 && n > 24)) return BAD;
        if (sort >= 0 && n < 0) return SIZE;
        sheets[sheet] = sort < 0 ? null : new Row(sort, n);
        return sort < 0 ? 0 : n;
    }

    public int mark(int sheet, int place, int v) {
        if (out(sheet, 0, 3)) return BAD;
        Row r = sheets[sheet];
        if (r == null) return NOTHING;
        if (out(place, 0, r.at.length - 1)) return INDEX;
        if (r.sort == 0 && v == NONE) return KIND;
        if (r.sort == 1 && v != NONE && out(v, -99999, 99999)) return BAD;
        r.at[place] = v == NONE ? null : r.sort == 0 ? Integer.valueOf((short) v) : Integer.valueOf(v);
        return 1;
    }

    public int pour(int sheet) {
        if (out(sheet, 0, 3)) return BAD;
        if (sheets[sheet] == null) return NOTHING;
        int[] before = s.rents.clone();
        int changed = 0;
        for (int i = 0; i < 8; i++) {
            Integer v = i < sheets[sheet].at.length ? sheets[sheet].at[i] : null;
            s.rents[i] = v == null ? s.rents[i] : Math.max(0, Math.min(9, v));
            changed += s.rents[i] != before[i] ? 1 : 0;
        }
        return changed;
    }

    public int reads(int sheet) {
        if (out(sheet, 0, 3)) return BAD;
        if (sheets[sheet] == null) return NOTHING;
        for (int i = 0; i < sheets[sheet].at.length; i++) {
            Integer v = sheets[sheet].at[i];
            if (v != null && (noBeggar(i) || s.beggars.get(i).purse != v)) return i;
        }
        return NONE;
    }

    public int copy(int from, int place, int to, int at, int many) {
        if (out(from, 0, 3) || out(to, 0, 3)) return BAD;
        Row a = sheets[from], b = sheets[to];
        if (a == null || b == null) return NOTHING;
        if (a.sort != b.sort) return KIND;
        try {
            System.arraycopy(a.at, place, b.at, at, many);
        } catch (IndexOutOfBoundsException e) {
            return INDEX;
        }
        return many;
    }

    private int thing(int slot) {
        Object o = slots[slot];
        return o == null ? 0 : o instanceof Beggar ? 1 : o instanceof Row ? 2 : 3;
    }

    public int lay(int slot, int thing, int k) {
        if (out(slot, 0, 4) || out(thing, 0, 3)) return BAD;
        if (thing == 1 && noBeggar(k) || thing == 2 && out(k, 0, 3)) return BAD;
        if (thing == 2 && sheets[k] == null) return NOTHING;
        int was = thing(slot);
        switch (thing) {
            case 0 -> slots[slot] = null;
            case 1 -> slots[slot] = s.beggars.get(k).copy();
            case 2 -> slots[slot] = sheets[k].copy();
            default -> slots[slot] = k;
        }
        return was;
    }

    public int ask(int slot, int kind) {
        if (out(slot, 0, 4) || out(kind, 0, 5)) return BAD;
        if (slots[slot] == null) return NOTHING;
        return slots[slot] instanceof Beggar b && isA(b, kind) ? b.worth() : KIND;
    }

    public int item(int slot, int place) {
        if (out(slot, 0, 4)) return BAD;
        if (slots[slot] == null) return NOTHING;
        if (!(slots[slot] instanceof Row r)) return KIND;
        if (out(place, 0, r.at.length - 1)) return INDEX;
        return r.at[place] == null ? KIND : r.at[place];
    }

    public int rest(int slot, int n) {
        if (out(slot, 0, 4)) return BAD;
        if (slots[slot] == null) return NOTHING;
        if (!(slots[slot] instanceof Integer v)) return KIND;
        return n == 0 ? NO : (int) ((long) v % n);
    }

    public int tell(int v) {
        if (waiting.size() == 60) return FULL;
        waiting.add(v);
        return waiting.size();
    }

    public int check(int n) {
        List<Integer> told = new ArrayList<>(waiting);
        waiting.clear();
        if (out(n, 1, 30)) return BAD;
        if (image == null) return NO;
        List<Integer> due = new ArrayList<>();
        for (int i = 1; i <= n && image.hour + i <= 9999; i++) {
            due.add(image.after(i).purses());
            due.add(image.after(i).hats());
        }
        int same = 0;
        while (same < told.size() && same < due.size() && told.get(same).equals(due.get(same))) same++;
        return same == told.size() && same == due.size() ? 0 : 1 + same;
    }

    public int keep() {
        image = s.copy();
        return s.beggars.size();
    }

    public int back() {
        if (image == null) return NO;
        s = image.copy();
        return s.beggars.size();
    }

    public int count(int what) {
        if (out(what, 0, 8)) return BAD;
        return new int[] {s.beggars.size(), s.hour, s.rain, s.wet ? 1 : 0, s.funeral, s.laws.size(),
            waiting.size(), tape.length(), s.z}[what];
    }
}
