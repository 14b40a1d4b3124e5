import java.util.Arrays;

/** Beggars of a guild on the corners of a street, hour by hour; README.md says how it is used. */
public final class BeggarCorners {
    public static final int BAD = -1000000001, NO = -1000000002, FULL = -1000000003, NONE = -1000000005, NOTHING = -1000000011, KIND = -1000000012, INDEX = -1000000013, SIZE = -1000000014;

    private static final int CORNERS = 8;
    /** Behind the last corner: of a beggar, that it is at home; of the funeral, that there is none. */
    private static final int NOWHERE = 8;
    private static final int MOST_BEGGARS = 8;
    private static final int MOST_KIND = 5;
    private static final int MOST_SKILL = 20;
    private static final int MOST_RENT = 9;
    private static final int MOST_GUILT = 9;
    private static final int LAST_HOUR = 9999;
    private static final int NEWCOMER_SKILL = 10;
    private static final int LET_AT_MOST = 3;

    private static final int ALMS = 0, FEE = 1, FINE = 2;
    private static final int MOST_TEXTS = 14;
    private static final int MOST_BYTES = 96;

    private static final int SHEETS = 4, SLOTS = 5;
    private static final int MOST_PLACES = 24;
    private static final int MISSING = -1, SHORTS = 0, FLOATS = 1;
    private static final int MOST_FLOAT = 99999;
    private static final int EMPTY = 0, HOLDS_BEGGAR = 1, HOLDS_SHEET = 2, HOLDS_NUMBER = 3;

    private static final int MOST_WAITING = 60;
    private static final int MOST_CHECKED = 30;

    private final Street street = new Street();
    private final Street thought = new Street();
    private final Street image = new Street();
    private boolean imageKept = false;

    private final Reader reader = new Reader();
    private final Tape tape = reader.tape;
    private final Text[] texts = new Text[MOST_TEXTS];
    private final Alms alms = new Alms();

    private final Sheet[] sheets = new Sheet[SHEETS];
    private final Slot[] slots = new Slot[SLOTS];
    private final int[] waiting = new int[MOST_WAITING];
    private int waits = 0;

    public BeggarCorners() {
        for (int i = 0; i < SHEETS; i++) {
            sheets[i] = new Sheet();
        }
        for (int i = 0; i < SLOTS; i++) {
            slots[i] = new Slot();
        }
    }

    // ---- beggars, corners

    public int beggar(int kind, int corner, int skill) {
        if (!isKind(kind) || !within(corner, 0, NOWHERE) || !within(skill, 0, MOST_SKILL)) {
            return BAD;
        }
        if (street.size >= MOST_BEGGARS) {
            return FULL;
        }
        return street.add(kind, corner, skill);
    }

    public int told(int beggar, int what) {
        if (!isBeggar(beggar)) {
            return BAD;
        }
        switch (what) {
            case 0: return street.kinds[beggar];
            case 1: return street.corners[beggar];
            case 2: return street.skills[beggar];
            case 3: return street.purses[beggar];
            case 4: return street.hats[beggar];
            case 5: return street.isAgainstLaw(beggar) ? 1 : 0;
            case 6: return Kinds.worth(street.kinds[beggar], street.skills[beggar]);
            default: return BAD;
        }
    }

    public int given(int beggar, int c, int m, int g) {
        if (!isBeggar(beggar) || !within(c, 1, 9) || !within(m, 0, 9) || !within(g, 0, MOST_GUILT)) {
            return BAD;
        }
        alms.follow(counting(ALMS, street.texts));
        return street.giftTo(beggar, c, m, g, alms);
    }

    public int as(int beggar, int kind) {
        if (!isBeggar(beggar) || !isKind(kind)) {
            return BAD;
        }
        return Kinds.isOf(street.kinds[beggar], kind) ? street.skills[beggar] : KIND;
    }

    public int turns(int beggar, int kind) {
        if (!isBeggar(beggar) || !isKind(kind)) {
            return BAD;
        }
        int was = street.kinds[beggar];
        street.kinds[beggar] = kind;
        return was;
    }

    public int set(int beggar, int what, int v) {
        if (!isBeggar(beggar)) {
            return BAD;
        }
        if (what == 1 && within(v, 0, NOWHERE)) {
            int was = street.corners[beggar];
            street.corners[beggar] = v;
            return was;
        }
        if (what == 2 && within(v, 0, MOST_SKILL)) {
            int was = street.skills[beggar];
            street.skills[beggar] = v;
            return was;
        }
        return BAD;
    }

    public int rent(int corner, int v) {
        if (!isCorner(corner) || !within(v, 0, MOST_RENT)) {
            return BAD;
        }
        int was = street.rents[corner];
        street.rents[corner] = v;
        return was;
    }

    public int rule(int what, int v) {
        if (what == 0 && within(v, 0, 100)) {
            int was = street.rain;
            street.rain = v;
            return was;
        }
        if (what == 1 && within(v, 0, 1)) {
            int was = street.wet ? 1 : 0;
            street.wet = v == 1;
            return was;
        }
        if (what == 2 && within(v, 0, NOWHERE)) {
            int was = street.funeral;
            street.funeral = v;
            return was;
        }
        return BAD;
    }

    public int deal(int n) {
        if (!within(n, 1, MOST_BEGGARS)) {
            return BAD;
        }
        int came = Math.min(n, MOST_BEGGARS - street.size);
        for (int i = 0; i < came; i++) {
            int kind = street.draw() % (MOST_KIND + 1);
            int corner = street.draw() % (NOWHERE + 1);
            int skill = street.draw() % (MOST_SKILL + 1);
            street.add(kind, corner, skill);
        }
        return came;
    }

    public int seed(int v) {
        int was = street.z;
        street.z = v;
        return was;
    }

    // ---- hours

    public int hours(int n) {
        if (!within(n, 1, 100)) {
            return BAD;
        }
        int hatsBefore = street.allHats();
        alms.follow(counting(ALMS, street.texts));
        street.passHours(Math.min(n, LAST_HOUR - street.hour), alms);
        return street.allHats() - hatsBefore;
    }

    public int guild(int what) {
        switch (what) {
            case 0: return street.allPurses();
            case 1: return street.chest;
            case 2: return street.allHats();
            case 3: return street.againstLaw();
            case 4: return street.taken();
            default: return BAD;
        }
    }

    // ---- what will be

    public int behind(int n, int what) {
        if (!within(n, 0, 100) || !within(what, 0, 2 + street.size)) {
            return BAD;
        }
        think();
        thought.passHours(n, alms);
        switch (what) {
            case 0: return thought.allPurses();
            case 1: return thought.chest;
            case 2: return thought.allHats();
            default: return thought.purses[what - 3];
        }
    }

    public int best(int beggar, int n, int what) {
        if (!isBeggar(beggar) || !within(n, 1, 40) || !within(what, 0, 1)) {
            return BAD;
        }
        int bestCorner = 0;
        int most = 0;
        for (int corner = 0; corner <= NOWHERE; corner++) {
            think();
            thought.corners[beggar] = corner;
            thought.passHours(n, alms);
            int purse = thought.purses[beggar];
            if (corner == 0 || purse > most) {
                bestCorner = corner;
                most = purse;
            }
        }
        return what == 0 ? bestCorner : most;
    }

    public int letting(int n, int what) {
        if (!within(n, 1, 4) || !within(what, 0, 1)) {
            return BAD;
        }
        if (street.size == 0) {
            return NONE;
        }
        int let = Math.min(LET_AT_MOST, street.size);
        int ways = 1 << (3 * let);
        int bestWay = NONE;
        int most = 0;
        for (int way = 0; way < ways; way++) {
            think();
            thought.letOut(way, let);
            if (thought.againstLaw() != 0) {
                continue;
            }
            thought.passHours(n, alms);
            int purses = thought.allPurses();
            if (bestWay == NONE || purses > most) {
                bestWay = way;
                most = purses;
            }
        }
        return what == 0 || bestWay == NONE ? bestWay : most;
    }

    public int takes(int kind, int corner, int n) {
        if (!isKind(kind) || !isCorner(corner) || !within(n, 1, 60)) {
            return BAD;
        }
        think();
        thought.passHours(n, alms);
        int without = thought.allPurses();
        think();
        int newcomer = thought.add(kind, corner, NEWCOMER_SKILL);
        thought.passHours(n, alms);
        int with = thought.allPurses() - thought.purses[newcomer];
        return without - with;
    }

    public int bestRent(int n, int what) {
        if (!within(n, 1, 60) || !within(what, 0, 1)) {
            return BAD;
        }
        int bestOne = NONE;
        int most = 0;
        for (int v = 0; v <= MOST_RENT; v++) {
            think();
            Arrays.fill(thought.rents, v);
            thought.passHours(n, alms);
            if (!thought.anyInDebt() && (bestOne == NONE || thought.chest > most)) {
                bestOne = v;
                most = thought.chest;
            }
        }
        return what == 0 || bestOne == NONE ? bestOne : most;
    }

    public int mourned(int n, int what) {
        if (!within(n, 1, 60) || !within(what, 0, 1)) {
            return BAD;
        }
        int bestCorner = 0;
        int most = 0;
        for (int corner = 0; corner < CORNERS; corner++) {
            think();
            thought.funeral = corner;
            thought.passHours(n, alms);
            int purses = thought.allPurses();
            if (corner == 0 || purses > most) {
                bestCorner = corner;
                most = purses;
            }
        }
        return what == 0 ? bestCorner : most;
    }

    public int stood(int sheet, int beggar, int what) {
        if (!isSheet(sheet) || !isBeggar(beggar) || !within(what, 0, 1)) {
            return BAD;
        }
        if (sheets[sheet].isMissing()) {
            return NOTHING;
        }
        int bestCorner = 0;
        int least = 0;
        for (int corner = 0; corner <= NOWHERE; corner++) {
            int apart = differences(sheets[sheet], beggar, corner);
            if (corner == 0 || apart < least) {
                bestCorner = corner;
                least = apart;
            }
        }
        return what == 0 ? bestCorner : least;
    }

    public int fee() {
        Text text = counting(FEE, street.texts);
        return text == null ? street.chest : text.gives(street.chest, street.hour, 0);
    }

    public int fine(int beggar) {
        if (!isBeggar(beggar)) {
            return BAD;
        }
        int purse = street.purses[beggar];
        Text text = counting(FINE, street.texts);
        return text == null ? purse : text.gives(purse, street.hats[beggar], 0);
    }

    // ---- texts

    public int feed(int a, int b, int c) {
        if (tape.size + 12 > MOST_BYTES) {
            return FULL;
        }
        tape.add(a);
        tape.add(b);
        tape.add(c);
        return tape.size;
    }

    public int trim(int n) {
        if (!within(n, 0, tape.size)) {
            return BAD;
        }
        tape.size = n;
        return n;
    }

    public int text() {
        int fault = reader.findFault();
        tape.size = 0;
        if (fault >= 0) {
            return -100 - fault;
        }
        if (street.texts >= MOST_TEXTS) {
            return FULL;
        }
        int number = street.texts;
        texts[number] = reader.makeText();
        street.texts = number + 1;
        return number;
    }

    public int textTold(int text, int what) {
        if (!within(text, 0, street.texts - 1) || texts[text] == null) {
            return BAD;
        }
        switch (what) {
            case 0: return texts[text].key;
            case 1: return texts[text].pieces;
            default: return BAD;
        }
    }

    public int why(int key) {
        if (!within(key, ALMS, FINE)) {
            return BAD;
        }
        int number = lastOf(key, street.texts);
        return number < 0 ? NONE : number;
    }

    // ---- sheets, slots

    public int sheet(int sheet, int sort, int n) {
        if (!isSheet(sheet) || !within(sort, MISSING, FLOATS)) {
            return BAD;
        }
        int places = sort == MISSING ? 0 : n;
        if (places > MOST_PLACES) {
            return BAD;
        }
        if (places < 0) {
            return SIZE;
        }
        sheets[sheet].begin(sort, places);
        return places;
    }

    public int mark(int sheet, int place, int v) {
        if (!isSheet(sheet)) {
            return BAD;
        }
        Sheet row = sheets[sheet];
        if (row.isMissing()) {
            return NOTHING;
        }
        if (!row.has(place)) {
            return INDEX;
        }
        if (row.sort == SHORTS && v == NONE) {
            return KIND;
        }
        if (row.sort == FLOATS && v != NONE && !within(v, -MOST_FLOAT, MOST_FLOAT)) {
            return BAD;
        }
        row.places[place] = row.sort == SHORTS ? (short) v : v;
        return 1;
    }

    public int pour(int sheet) {
        if (!isSheet(sheet)) {
            return BAD;
        }
        Sheet row = sheets[sheet];
        if (row.isMissing()) {
            return NOTHING;
        }
        int otherwise = 0;
        for (int corner = 0; corner < CORNERS && corner < row.size; corner++) {
            if (!row.isNumber(corner)) {
                continue;
            }
            int due = held(row.places[corner], 0, MOST_RENT);
            if (street.rents[corner] != due) {
                street.rents[corner] = due;
                otherwise++;
            }
        }
        return otherwise;
    }

    public int reads(int sheet) {
        if (!isSheet(sheet)) {
            return BAD;
        }
        Sheet row = sheets[sheet];
        if (row.isMissing()) {
            return NOTHING;
        }
        for (int place = 0; place < row.size; place++) {
            if (row.isNumber(place) && (!isBeggar(place) || row.places[place] != street.purses[place])) {
                return place;
            }
        }
        return NONE;
    }

    public int copy(int from, int place, int to, int at, int many) {
        if (!isSheet(from) || !isSheet(to)) {
            return BAD;
        }
        Sheet source = sheets[from];
        Sheet target = sheets[to];
        if (source.isMissing() || target.isMissing()) {
            return NOTHING;
        }
        if (source.sort != target.sort) {
            return KIND;
        }
        if (!source.hasAll(place, many) || !target.hasAll(at, many)) {
            return INDEX;
        }
        System.arraycopy(source.places, place, target.places, at, many);
        return many;
    }

    public int lay(int slot, int thing, int k) {
        if (!isSlot(slot) || !within(thing, EMPTY, HOLDS_NUMBER)) {
            return BAD;
        }
        if ((thing == HOLDS_BEGGAR && !isBeggar(k)) || (thing == HOLDS_SHEET && !isSheet(k))) {
            return BAD;
        }
        if (thing == HOLDS_SHEET && sheets[k].isMissing()) {
            return NOTHING;
        }
        Slot kept = slots[slot];
        int was = kept.thing;
        kept.thing = thing;
        if (thing == HOLDS_BEGGAR) {
            kept.kind = street.kinds[k];
            kept.skill = street.skills[k];
        } else if (thing == HOLDS_SHEET) {
            kept.row.become(sheets[k]);
        } else if (thing == HOLDS_NUMBER) {
            kept.number = k;
        }
        return was;
    }

    public int ask(int slot, int kind) {
        if (!isSlot(slot) || !isKind(kind)) {
            return BAD;
        }
        Slot kept = slots[slot];
        if (kept.thing == EMPTY) {
            return NOTHING;
        }
        if (kept.thing != HOLDS_BEGGAR || !Kinds.isOf(kept.kind, kind)) {
            return KIND;
        }
        return Kinds.worth(kept.kind, kept.skill);
    }

    public int item(int slot, int place) {
        if (!isSlot(slot)) {
            return BAD;
        }
        Slot kept = slots[slot];
        if (kept.thing == EMPTY) {
            return NOTHING;
        }
        if (kept.thing != HOLDS_SHEET) {
            return KIND;
        }
        if (!kept.row.has(place)) {
            return INDEX;
        }
        return kept.row.isNumber(place) ? kept.row.places[place] : KIND;
    }

    public int rest(int slot, int n) {
        if (!isSlot(slot)) {
            return BAD;
        }
        Slot kept = slots[slot];
        if (kept.thing == EMPTY) {
            return NOTHING;
        }
        if (kept.thing != HOLDS_NUMBER) {
            return KIND;
        }
        return n == 0 ? NO : kept.number % n;
    }

    // ---- rows, images

    public int tell(int v) {
        if (waits >= MOST_WAITING) {
            return FULL;
        }
        waiting[waits] = v;
        waits++;
        return waits;
    }

    public int check(int n) {
        int many = waits;
        waits = 0;
        if (!within(n, 1, MOST_CHECKED)) {
            return BAD;
        }
        if (!imageKept) {
            return NO;
        }
        thought.become(image);
        alms.follow(counting(ALMS, image.texts));
        int most = Math.min(n, LAST_HOUR - image.hour);
        for (int i = 0; i < most; i++) {
            thought.passHour(alms);
            if (!stands(2 * i, many, thought.allPurses())) {
                return 1 + 2 * i;
            }
            if (!stands(2 * i + 1, many, thought.allHats())) {
                return 1 + 2 * i + 1;
            }
        }
        return many > 2 * most ? 1 + 2 * most : 0;
    }

    public int keep() {
        image.become(street);
        imageKept = true;
        return image.size;
    }

    public int back() {
        if (!imageKept) {
            return NO;
        }
        street.become(image);
        return street.size;
    }

    public int count(int what) {
        switch (what) {
            case 0: return street.size;
            case 1: return street.hour;
            case 2: return street.rain;
            case 3: return street.wet ? 1 : 0;
            case 4: return street.funeral;
            case 5: return street.texts;
            case 6: return waits;
            case 7: return tape.size;
            case 8: return street.z;
            default: return BAD;
        }
    }

    // ---- what the calls share

    private static boolean within(int v, int least, int most) {
        return v >= least && v <= most;
    }

    private static int held(int v, int least, int most) {
        return v < least ? least : v > most ? most : v;
    }

    private static boolean isKind(int kind) {
        return within(kind, 0, MOST_KIND);
    }

    private static boolean isCorner(int corner) {
        return within(corner, 0, CORNERS - 1);
    }

    private static boolean isSheet(int sheet) {
        return within(sheet, 0, SHEETS - 1);
    }

    private static boolean isSlot(int slot) {
        return within(slot, 0, SLOTS - 1);
    }

    private boolean isBeggar(int beggar) {
        return within(beggar, 0, street.size - 1);
    }

    private boolean stands(int place, int many, int due) {
        return place < many && waiting[place] == due;
    }

    /** The number of the text told last of a key, of the first so many; below 0 if there is none. */
    private int lastOf(int key, int many) {
        for (int i = Math.min(many, MOST_TEXTS) - 1; i >= 0; i--) {
            if (texts[i] != null && texts[i].key == key) {
                return i;
            }
        }
        return -1;
    }

    private Text counting(int key, int many) {
        int number = lastOf(key, many);
        return number < 0 ? null : texts[number];
    }

    /** What is only thought begins from now, on a street of its own. */
    private void think() {
        thought.become(street);
        alms.follow(counting(ALMS, street.texts));
    }

    private int differences(Sheet row, int beggar, int corner) {
        think();
        thought.corners[beggar] = corner;
        int apart = 0;
        for (int k = 0; k < row.size; k++) {
            if (k > 0) {
                thought.passHour(alms);
            }
            if (row.isNumber(k)) {
                apart += Math.abs(thought.purses[beggar] - row.places[k]);
            }
        }
        return apart;
    }

    /** What a kind changes in what is given and what one is worth. */
    private static final class Kinds {
        private static final int BLIND = 1, CHILD = 2, SINGING = 3, FALSE = 4, PROUD = 5;
        /** The kind above each one; above the first there is none. */
        private static final int[] ABOVE = {-1, 0, 0, 1, 2, 0};

        static boolean isOf(int kind, int other) {
            int at = kind;
            for (int i = 0; i < ABOVE.length && within(at, 0, ABOVE.length - 1); i++) {
                if (at == other) {
                    return true;
                }
                at = ABOVE[at];
            }
            return false;
        }

        static int gift(int kind, int asBeggar, int m, int g, boolean wet) {
            switch (kind) {
                case BLIND: return asBeggar + m / 3;
                case SINGING: return wet ? (asBeggar + m / 3) / 2 : asBeggar + m / 3;
                case CHILD: return giftOfChild(asBeggar, m);
                case FALSE: return m >= 8 ? 0 : giftOfChild(asBeggar, m);
                case PROUD: return g < 3 ? 0 : Math.max(asBeggar - 1, 0);
                default: return asBeggar;
            }
        }

        private static int giftOfChild(int asBeggar, int m) {
            return m >= 5 ? 2 * asBeggar : asBeggar;
        }

        static int worth(int kind, int skill) {
            switch (kind) {
                case BLIND: return skill + 6;
                case SINGING: return 2 * (skill + 6);
                case CHILD: return 99 - skill;
                case FALSE: return 99 - skill - 8;
                case PROUD: return 5;
                default: return skill;
            }
        }
    }

    /** All that an image keeps: corners, beggars, weather, chest, hour, z, and how many texts there are. */
    private static final class Street {
        /** One more than there may be, for the newcomer who is only thought. */
        private static final int ROOM = MOST_BEGGARS + 1;

        final int[] rents = new int[CORNERS];
        final int[] kinds = new int[ROOM];
        final int[] corners = new int[ROOM];
        final int[] skills = new int[ROOM];
        final int[] purses = new int[ROOM];
        final int[] hats = new int[ROOM];
        int size = 0;
        int rain = 20;
        boolean wet = false;
        int funeral = NOWHERE;
        int chest = 0;
        int hour = 0;
        int z = 1;
        /** Texts are only ever added or cut off behind, so that their number tells which there are. */
        int texts = 0;

        void become(Street other) {
            System.arraycopy(other.rents, 0, rents, 0, CORNERS);
            System.arraycopy(other.kinds, 0, kinds, 0, ROOM);
            System.arraycopy(other.corners, 0, corners, 0, ROOM);
            System.arraycopy(other.skills, 0, skills, 0, ROOM);
            System.arraycopy(other.purses, 0, purses, 0, ROOM);
            System.arraycopy(other.hats, 0, hats, 0, ROOM);
            size = other.size;
            rain = other.rain;
            wet = other.wet;
            funeral = other.funeral;
            chest = other.chest;
            hour = other.hour;
            z = other.z;
            texts = other.texts;
        }

        int add(int kind, int corner, int skill) {
            int number = Math.min(size, ROOM - 1);
            kinds[number] = kind;
            corners[number] = corner;
            skills[number] = skill;
            purses[number] = 0;
            hats[number] = 0;
            size = number + 1;
            return number;
        }

        /** Gives corners to the first ones by the digits of a way, the first one's highest. */
        void letOut(int way, int many) {
            for (int b = 0; b < many && b < size; b++) {
                corners[b] = (way >> (3 * (many - 1 - b))) & 7;
            }
        }

        boolean isAgainstLaw(int beggar) {
            for (int other = 0; other < beggar && beggar < size; other++) {
                if (offends(other, beggar)) {
                    return true;
                }
            }
            return false;
        }

        private boolean offends(int one, int other) {
            if (corners[one] == NOWHERE || corners[other] == NOWHERE) {
                return false;
            }
            int apart = Math.abs(corners[one] - corners[other]);
            return apart == 0 || (apart == 1 && kinds[one] == kinds[other]);
        }

        int againstLaw() {
            int them = 0;
            for (int b = 0; b < size; b++) {
                if (isAgainstLaw(b)) {
                    them |= 1 << b;
                }
            }
            return them;
        }

        int taken() {
            int them = 0;
            for (int b = 0; b < size; b++) {
                if (corners[b] != NOWHERE) {
                    them |= 1 << corners[b];
                }
            }
            return them;
        }

        int allPurses() {
            int all = 0;
            for (int b = 0; b < size; b++) {
                all += purses[b];
            }
            return all;
        }

        int allHats() {
            int all = 0;
            for (int b = 0; b < size; b++) {
                all += hats[b];
            }
            return all;
        }

        boolean anyInDebt() {
            for (int b = 0; b < size; b++) {
                if (purses[b] < 0) {
                    return true;
                }
            }
            return false;
        }

        int draw() {
            z = z * 1103515245 + 12345;
            return z >>> 8;
        }

        void passHours(int n, Alms alms) {
            for (int i = 0; i < n; i++) {
                passHour(alms);
            }
        }

        void passHour(Alms alms) {
            if (draw() % 100 < rain) {
                wet = !wet;
            }
            payRents();
            int passers = wet ? 2 : 3;
            for (int i = 0; i < passers; i++) {
                int from = draw() % CORNERS;
                int to = draw() % CORNERS;
                int c = 1 + draw() % 9;
                int m = draw() % 10;
                walk(from, to, c, m, alms);
            }
            if (funeral != NOWHERE) {
                walk(funeral, funeral, 9, 9, alms);
            }
            hour++;
        }

        private void payRents() {
            for (int b = 0; b < size; b++) {
                if (isCorner(corners[b])) {
                    purses[b] -= rents[corners[b]];
                    chest += rents[corners[b]];
                }
            }
        }

        private void walk(int from, int to, int c, int m, Alms alms) {
            int guilt = MOST_GUILT;
            int step = from <= to ? 1 : -1;
            int passed = Math.abs(to - from) + 1;
            for (int i = 0; i < passed; i++) {
                int corner = from + i * step;
                for (int b = 0; b < size; b++) {
                    int gift = corners[b] == corner ? giftTo(b, c, m, guilt, alms) : 0;
                    if (gift > 0) {
                        purses[b] += gift;
                        hats[b]++;
                        guilt = Math.max(guilt - 3, 0);
                    }
                }
            }
        }

        int giftTo(int beggar, int c, int m, int g, Alms alms) {
            return Kinds.gift(kinds[beggar], alms.asBeggar(c, g, skills[beggar]), m, g, wet);
        }
    }

    /** What a plain beggar is given, by the text that counts or without one. */
    private static final class Alms {
        private Text law = null;
        /** 1 and what was worked out by the law for a skill, coins and guilt; 0: not worked out yet. */
        private final int[] known = new int[(MOST_SKILL + 1) * 9 * (MOST_GUILT + 1)];

        void follow(Text text) {
            if (text != law) {
                law = text;
                Arrays.fill(known, 0);
            }
        }

        int asBeggar(int c, int g, int skill) {
            if (law == null) {
                return c * g / 9 + skill / 5;
            }
            int place = (skill * 9 + c - 1) * (MOST_GUILT + 1) + g;
            if (place < 0 || place >= known.length) {
                return 0;
            }
            if (known[place] == 0) {
                known[place] = 1 + held(law.gives(c, g, skill), 0, 99);
            }
            return known[place] - 1;
        }
    }

    /** A law as its reader left it: the steps to work it out, operands ahead of their operator. */
    private static final class Text {
        final int key;
        final int pieces;
        private final int[] steps;
        private final int[] stack;

        Text(int key, int pieces, int[] steps) {
            this.key = key;
            this.pieces = pieces;
            this.steps = steps;
            this.stack = new int[Math.max(pieces, 1)];
        }

        /** Worked out with the values of its names, in the order of Reader.namesOf. */
        int gives(int first, int second, int third) {
            int top = 0;
            for (int i = 0; i < steps.length; i++) {
                int step = steps[i];
                if (step >= Reader.LAST_NAME) {
                    if (top < stack.length) {
                        stack[top] = step >= 0 ? step : step == -1 ? first : step == -2 ? second : third;
                        top++;
                    }
                } else if (step == -'!') {
                    if (top > 0) {
                        stack[top - 1] = stack[top - 1] == 0 ? 1 : 0;
                    }
                } else if (top > 1) {
                    top--;
                    stack[top - 1] = joined(-step, stack[top - 1], stack[top]);
                }
            }
            return stack[0];
        }

        private static int joined(int sign, int x, int y) {
            switch (sign) {
                case '|': return x != 0 || y != 0 ? 1 : 0;
                case '&': return x != 0 && y != 0 ? 1 : 0;
                case '<': return x < y ? 1 : 0;
                case '=': return x == y ? 1 : 0;
                case '>': return x > y ? 1 : 0;
                case '+': return x + y;
                case '-': return x - y;
                case '*': return x * y;
                default: return y == 0 ? 0 : x / y;
            }
        }
    }

    /** The bytes that wait to be read as a text. */
    private static final class Tape {
        final byte[] bytes = new byte[MOST_BYTES];
        int size = 0;

        void add(int four) {
            for (int shift = 24; shift >= 0 && size < MOST_BYTES; shift -= 8) {
                bytes[size] = (byte) (four >> shift);
                size++;
            }
        }
    }

    /** Reads its tape as a text, one word or sign ahead. */
    private static final class Reader {
        /** Steps: a number itself; a name as -1, -2, -3; an operator as its sign below 0. */
        static final int LAST_NAME = -3;
        private static final int END = 0, LETTERS = 1, DIGITS = 2, SIGN = 3, WRONG = 4;
        private static final int LOOSEST = 0, TESTS = 2, TIGHTEST = 4;
        private static final int MOST_OPEN = 8, MOST_NOTS = 8, MOST_DIGITS = 4;

        final Tape tape = new Tape();
        private int sort = SIGN;
        private int start = 0;
        private int stop = 0;
        private int fault = -1;
        private int key = ALMS;
        private final int[] steps = new int[MOST_BYTES];
        private int length = 0;
        private int pieces = 0;

        /** The place of the first fault; below 0 if the tape is a text. */
        int findFault() {
            sort = SIGN;
            stop = 0;
            fault = -1;
            length = 0;
            pieces = 0;
            advance();
            key = keyHere();
            if (key < 0) {
                fail();
            } else {
                advance();
                readLevel(LOOSEST, 0, 0);
                if (sort != END) {
                    fail();
                }
            }
            return fault;
        }

        Text makeText() {
            return new Text(key, pieces, Arrays.copyOf(steps, length));
        }

        private static String wordOf(int key) {
            return key == ALMS ? "alms" : key == FEE ? "fee" : "fine";
        }

        private static String namesOf(int key) {
            return key == ALMS ? "cgs" : key == FEE ? "ch" : "ph";
        }

        private void advance() {
            boolean behindWord = sort == LETTERS || sort == DIGITS;
            int before = stop;
            start = before;
            for (int i = before; i < tape.size && tape.bytes[i] == ' '; i++) {
                start = i + 1;
            }
            stop = start;
            sort = sortAt(start);
            if (sort == SIGN) {
                stop = start + 1;
            } else if (sort != END) {
                for (int i = start; i < tape.size && sortAt(i) == sort; i++) {
                    stop = i + 1;
                }
                if (behindWord && start == before) {
                    sort = WRONG;
                }
            }
        }

        private int sortAt(int place) {
            if (place >= tape.size) {
                return END;
            }
            int sign = tape.bytes[place];
            if (sign >= 'a' && sign <= 'z') {
                return LETTERS;
            }
            return sign >= '0' && sign <= '9' ? DIGITS : SIGN;
        }

        /** Behind a fault nothing more is found, so that all that is open ends. */
        private void fail() {
            if (fault < 0) {
                fault = start;
            }
            sort = WRONG;
        }

        private int keyHere() {
            for (int k = ALMS; k <= FINE; k++) {
                if (sort == LETTERS && isHere(wordOf(k))) {
                    return k;
                }
            }
            return -1;
        }

        private boolean isHere(String word) {
            if (stop - start != word.length()) {
                return false;
            }
            for (int i = 0; i < word.length(); i++) {
                if (tape.bytes[start + i] != word.charAt(i)) {
                    return false;
                }
            }
            return true;
        }

        private boolean isSign(char sign) {
            return sort == SIGN && start < tape.size && tape.bytes[start] == sign;
        }

        /** How tight the operator here binds; below 0 if here is none. */
        private int levelHere() {
            if (sort != SIGN || start >= tape.size) {
                return -1;
            }
            switch (tape.bytes[start]) {
                case '|': return LOOSEST;
                case '&': return 1;
                case '<': case '=': case '>': return TESTS;
                case '+': case '-': return 3;
                case '*': case '/': return TIGHTEST;
                default: return -1;
            }
        }

        private void readLevel(int level, int open, int nots) {
            if (level > TIGHTEST) {
                readPiece(open, nots);
                return;
            }
            readLevel(level + 1, open, nots);
            int most = level == TESTS ? 1 : MOST_BYTES;
            for (int i = 0; i < most && levelHere() == level; i++) {
                int sign = tape.bytes[start];
                advance();
                readLevel(level + 1, open, nots);
                addStep(-sign);
            }
        }

        private void readPiece(int open, int nots) {
            if (sort == DIGITS && stop - start <= MOST_DIGITS) {
                readOperand(numberHere());
            } else if (sort == LETTERS && nameHere() >= 0) {
                readOperand(-1 - nameHere());
            } else if (isSign('!') && nots < MOST_NOTS) {
                advance();
                readPiece(open, nots + 1);
                addStep(-'!');
            } else if (isSign('(') && open < MOST_OPEN) {
                advance();
                readLevel(LOOSEST, open + 1, nots);
                if (isSign(')')) {
                    advance();
                } else {
                    fail();
                }
            } else {
                fail();
            }
        }

        private void readOperand(int step) {
            addStep(step);
            pieces++;
            advance();
        }

        private int numberHere() {
            int number = 0;
            for (int i = start; i < stop && i < tape.size; i++) {
                number = number * 10 + (tape.bytes[i] - '0');
            }
            return number;
        }

        private int nameHere() {
            if (stop - start != 1 || start >= tape.size) {
                return -1;
            }
            return namesOf(key).indexOf((char) tape.bytes[start]);
        }

        private void addStep(int step) {
            if (length < steps.length) {
                steps[length] = step;
                length++;
            }
        }
    }

    /** A row of places; a place that is no number holds NONE, which no number of a row can be. */
    private static final class Sheet {
        int sort = MISSING;
        int size = 0;
        final int[] places = new int[MOST_PLACES];

        void begin(int newSort, int newSize) {
            sort = newSort;
            size = newSize;
            Arrays.fill(places, 0);
        }

        void become(Sheet other) {
            sort = other.sort;
            size = other.size;
            System.arraycopy(other.places, 0, places, 0, MOST_PLACES);
        }

        boolean isMissing() {
            return sort == MISSING;
        }

        boolean has(int place) {
            return within(place, 0, size - 1);
        }

        /** The last one is asked for by what is left, as place and many together may wrap. */
        boolean hasAll(int place, int many) {
            return within(place, 0, size) && within(many, 0, size - place);
        }

        boolean isNumber(int place) {
            return has(place) && places[place] != NONE;
        }
    }

    /** What a slot holds: of a beggar what its worth needs, of a sheet a row of its own. */
    private static final class Slot {
        int thing = EMPTY;
        int kind = 0;
        int skill = 0;
        int number = 0;
        final Sheet row = new Sheet();
    }
}
