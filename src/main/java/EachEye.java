/**
 * A sign of six hues, people of kinds who make something of it with both eyes, inks in layers, words
 * told to people, cards of what one said he saw, and eyes that age.
 */
public final class EachEye {
    public static final int NONE = -1, UNKNOWN = -101, OUTSIDE = -102, STATE = -103, FULL = -104;

    private static final int CELLS = 6;
    private static final int HUES = 8;
    private static final int PARTS = 3;
    private static final int KINDS = 5;
    private static final int CANDIDATES = KINDS * HUES * HUES;
    private static final int MOST_LETTERS = 10;
    private static final int MOST_CODE = 126;
    private static final int MOST_PEOPLE = 4;
    private static final int MOST_INKS = 5;
    private static final int MOST_CARDS = 8;
    private static final int MOST_QUESTIONS = 60;
    private static final int MOST_YEARS = 60;
    /** Seeds are rests by 2 to the 31: what this mask leaves. */
    private static final long TOP_SEED = 2147483647L;
    private static final int FIRST_READ = 10;
    private static final int FIRST_TOLD = 20;

    private static final int PERSON = 0;
    private static final int ARGUER = 1;
    private static final int OLD = 2;
    private static final int WINKER = 3;
    private static final int SPY = 4;

    /** Stands where there is no sign and no word; a text of six hues is never below 0. */
    private static final int NO_TEXT = -1;

    private final Page page = new Page();
    private final Person[] people = new Person[MOST_PEOPLE];
    private final int[] inks = new int[MOST_INKS];
    private final Cards cards = new Cards();
    /** One of each kind, whose eyes are set anew before each use: nobody need be made to try an eye. */
    private final Person[] trials = new Person[KINDS];
    /** How many candidates say of a hue that they see a hue: 8 times the first, and the second. */
    private final int[] sayings = new int[HUES * HUES];

    private int theSign = NO_TEXT;
    private int peopleCount;
    private int inkCount;
    private int layersDone;
    private int signsRead;
    private int questionsDone;

    private int keptSign = NO_TEXT;
    private int keptPeople;
    private int keptInks;
    private int keptLayers;

    public EachEye() {
        for (int kind = 0; kind < KINDS; kind++) {
            trials[kind] = newPerson(kind);
        }
    }

    // ---- texts

    public int letter(int code) {
        if (code < 1 || code > MOST_CODE) {
            return OUTSIDE;
        }
        if (page.size >= MOST_LETTERS) {
            return FULL;
        }
        page.put(code);
        return page.size;
    }

    public int blank() {
        int had = page.size;
        page.empty();
        return had;
    }

    public int fault() {
        return page.soundLetters();
    }

    public int sign() {
        int text = page.asText();
        if (text == NO_TEXT) {
            return STATE;
        }
        theSign = text;
        peopleCount = 0;
        inkCount = 0;
        layersDone = 0;
        cards.clear();
        keptSign = NO_TEXT;
        signsRead++;
        page.empty();
        return colouredCells();
    }

    public int hue(int cell) {
        if (theSign == NO_TEXT || cell < 0 || cell >= CELLS) {
            return UNKNOWN;
        }
        return hueAt(theSign, cell);
    }

    public int layer(int ink, int set) {
        if (!isInk(ink)) {
            return UNKNOWN;
        }
        if (set < 0 || set >= (1 << CELLS)) {
            return OUTSIDE;
        }
        int changed = 0;
        for (int cell = 0; cell < CELLS; cell++) {
            int before = hueAt(theSign, cell);
            int after = before | inks[ink];
            if (holds(set, cell) && after != before) {
                theSign = withHue(theSign, cell, after);
                changed++;
            }
        }
        layersDone++;
        return changed;
    }

    // ---- people, inks

    public int person(int kind, int left, int right) {
        if (!isKind(kind) || !isHue(left) || !isHue(right)) {
            return OUTSIDE;
        }
        if (theSign == NO_TEXT) {
            return STATE;
        }
        if (peopleCount >= MOST_PEOPLE) {
            return FULL;
        }
        Person one = newPerson(kind);
        one.left = left;
        one.right = right;
        people[peopleCount] = one;
        peopleCount++;
        return peopleCount - 1;
    }

    public int about(int person, int what) {
        Person one = known(person);
        if (one == null) {
            return UNKNOWN;
        }
        if (what >= FIRST_READ && what < FIRST_READ + CELLS) {
            return one.glimpse(hueAt(theSign, what - FIRST_READ));
        }
        if (what >= FIRST_TOLD && what < FIRST_TOLD + CELLS) {
            return one.told == NO_TEXT ? NONE : hueAt(one.told, what - FIRST_TOLD);
        }
        switch (what) {
            case 0: return one.kind();
            case 1: return one.left;
            case 2: return one.right;
            case 3: return one.truths();
            default: return OUTSIDE;
        }
    }

    public int as(int person, int kind) {
        Person one = known(person);
        if (one == null) {
            return UNKNOWN;
        }
        if (!isKind(kind)) {
            return OUTSIDE;
        }
        return isOf(one, kind) ? person : NONE;
    }

    public int sees(int person, int hue) {
        Person one = known(person);
        if (one == null) {
            return UNKNOWN;
        }
        if (!isHue(hue)) {
            return OUTSIDE;
        }
        return one.glimpse(hue);
    }

    public int eye(int person, int which, int eye) {
        Person one = known(person);
        if (one == null) {
            return UNKNOWN;
        }
        if (which < 0 || which > 1 || !isHue(eye)) {
            return OUTSIDE;
        }
        int before = which == 0 ? one.left : one.right;
        if (which == 0) {
            one.left = eye;
        } else {
            one.right = eye;
        }
        return before;
    }

    public int ink(int hue) {
        if (!isHue(hue) || hue == 0) {
            return OUTSIDE;
        }
        if (theSign == NO_TEXT) {
            return STATE;
        }
        if (inkCount >= MOST_INKS) {
            return FULL;
        }
        inks[inkCount] = hue;
        inkCount++;
        return inkCount - 1;
    }

    public int inkOf(int ink) {
        return isInk(ink) ? inks[ink] : UNKNOWN;
    }

    // ---- words

    public int word(int person) {
        Person one = known(person);
        if (one == null) {
            return UNKNOWN;
        }
        int text = page.asText();
        if (text == NO_TEXT) {
            return STATE;
        }
        one.told = text;
        page.empty();
        return toldPeople();
    }

    public int unword(int person) {
        Person one = known(person);
        if (one == null) {
            return UNKNOWN;
        }
        int was = one.told == NO_TEXT ? 0 : 1;
        one.told = NO_TEXT;
        return was;
    }

    public int differ(int a, int b) {
        Person one = known(a);
        Person other = known(b);
        if (one == null || other == null) {
            return UNKNOWN;
        }
        for (int cell = 0; cell < CELLS; cell++) {
            int shown = hueAt(theSign, cell);
            if (one.glimpse(shown) != other.glimpse(shown)) {
                return cell;
            }
        }
        return NONE;
    }

    public int alike(int a, int b) {
        Person one = known(a);
        Person other = known(b);
        if (one == null || other == null) {
            return UNKNOWN;
        }
        int same = 0;
        for (int shown = 0; shown < HUES; shown++) {
            if (one.glimpse(shown) == other.glimpse(shown)) {
                same++;
            }
        }
        return same;
    }

    public int few(int what) {
        if (what < 0 || what > 1) {
            return OUTSIDE;
        }
        if (theSign == NO_TEXT) {
            return STATE;
        }
        int set = fewestInks();
        if (set == NONE) {
            return NONE;
        }
        return what == 0 ? Integer.bitCount(set) : set;
    }

    // ---- cards

    public int card(int hue, int said) {
        if (!isHue(hue) || !isHue(said)) {
            return OUTSIDE;
        }
        if (cards.size >= MOST_CARDS) {
            return FULL;
        }
        cards.put(hue, said);
        return cards.size;
    }

    public int forget() {
        int had = cards.size;
        cards.clear();
        return had;
    }

    public int who(int what) {
        if (what < 0 || what > 1) {
            return OUTSIDE;
        }
        if (questionsDone >= MOST_QUESTIONS) {
            return STATE;
        }
        questionsDone++;
        int fitting = 0;
        int least = NONE;
        for (int code = CANDIDATES - 1; code >= 0; code--) {
            if (cards.fit(candidate(code))) {
                fitting++;
                least = code;
            }
        }
        return what == 0 ? fitting : least;
    }

    public int next() {
        if (questionsDone >= MOST_QUESTIONS) {
            return STATE;
        }
        questionsDone++;
        if (countSayings() == 0) {
            return NONE;
        }
        int best = 0;
        int fewest = worstLeft(0);
        for (int shown = 1; shown < HUES; shown++) {
            int left = worstLeft(shown);
            if (left < fewest) {
                best = shown;
                fewest = left;
            }
        }
        return best;
    }

    public int ageing(int person, int years, int seed, int what) {
        Person one = known(person);
        if (one == null) {
            return UNKNOWN;
        }
        if (years < 1 || years > MOST_YEARS || seed < 0 || what < 0 || what > 2) {
            return OUTSIDE;
        }
        Person older = trial(one.kind(), one.left, one.right);
        int readNow = one.reading(theSign);
        int changedBehind = NONE;
        int last = seed;
        for (int year = 1; year <= years; year++) {
            last = nextSeed(last);
            int which = drawn(last, 2);
            last = nextSeed(last);
            older.lose(which, drawn(last, 8));
            if (changedBehind == NONE && older.reading(theSign) != readNow) {
                changedBehind = year;
            }
        }
        switch (what) {
            case 0: return changedBehind;
            case 1: return Integer.bitCount(older.left) + Integer.bitCount(older.right);
            default: return last;
        }
    }

    // ---- what is told of all

    public int image() {
        if (theSign == NO_TEXT) {
            return STATE;
        }
        keptSign = theSign;
        keptPeople = peopleCount;
        keptInks = inkCount;
        keptLayers = layersDone;
        for (int i = 0; i < peopleCount; i++) {
            Person one = known(i);
            if (one != null) {
                one.keep();
            }
        }
        cards.keep();
        return peopleCount;
    }

    public int restore() {
        if (keptSign == NO_TEXT) {
            return STATE;
        }
        theSign = keptSign;
        peopleCount = keptPeople;
        inkCount = keptInks;
        layersDone = keptLayers;
        for (int i = 0; i < peopleCount; i++) {
            Person one = known(i);
            if (one != null) {
                one.goBack();
            }
        }
        cards.goBack();
        return peopleCount;
    }

    public int count(int what) {
        switch (what) {
            case 0: return colouredCells();
            case 1: return peopleCount;
            case 2: return inkCount;
            case 3: return layersDone;
            case 4: return toldPeople();
            case 5: return cards.size;
            case 6: return page.size;
            case 7: return signsRead;
            case 8: return questionsDone;
            default: return OUTSIDE;
        }
    }

    public long digest() {
        long h = 853;
        if (theSign != NO_TEXT) {
            for (int cell = 0; cell < CELLS; cell++) {
                h = 31 * h + hueAt(theSign, cell);
            }
            h = 31 * h + few(0);
            h = 31 * h + few(1);
        }
        for (int i = 0; i < peopleCount; i++) {
            h = withPerson(h, i);
        }
        for (int i = 0; i < inkCount; i++) {
            h = 31 * h + inks[i];
        }
        for (int i = 0; i < page.size; i++) {
            h = 31 * h + page.codes[i];
        }
        for (int what = 0; what <= 8; what++) {
            h = 31 * h + count(what);
        }
        return h;
    }

    private long withPerson(long before, int person) {
        long h = before;
        for (int what = 0; what <= 3; what++) {
            h = 31 * h + about(person, what);
        }
        for (int cell = 0; cell < CELLS; cell++) {
            h = 31 * h + about(person, FIRST_READ + cell);
        }
        for (int cell = 0; cell < CELLS; cell++) {
            h = 31 * h + about(person, FIRST_TOLD + cell);
        }
        for (int other = 0; other < peopleCount; other++) {
            h = 31 * h + differ(person, other);
            h = 31 * h + alike(person, other);
        }
        return h;
    }

    // ---- hues, and texts of six hues: three bits for each cell, cell 0 lowest

    private static boolean isHue(int number) {
        return number >= 0 && number < HUES;
    }

    private static int hueAt(int text, int cell) {
        return (text >> (PARTS * cell)) & (HUES - 1);
    }

    private static int withHue(int text, int cell, int hue) {
        int shift = PARTS * cell;
        return (text & ~((HUES - 1) << shift)) | (hue << shift);
    }

    private static boolean holds(int set, int number) {
        return ((set >> number) & 1) == 1;
    }

    private int colouredCells() {
        if (theSign == NO_TEXT) {
            return 0;
        }
        int coloured = 0;
        for (int cell = 0; cell < CELLS; cell++) {
            if (hueAt(theSign, cell) != 0) {
                coloured++;
            }
        }
        return coloured;
    }

    // ---- who is who

    private static boolean isKind(int number) {
        return number >= 0 && number < KINDS;
    }

    private static Person newPerson(int kind) {
        switch (kind) {
            case ARGUER: return new Arguer();
            case OLD: return new Old();
            case WINKER: return new Winker();
            case SPY: return new Spy();
            default: return new Person();
        }
    }

    private static boolean isOf(Person one, int kind) {
        switch (kind) {
            case ARGUER: return one instanceof Arguer;
            case OLD: return one instanceof Old;
            case WINKER: return one instanceof Winker;
            case SPY: return one instanceof Spy;
            default: return true;
        }
    }

    /** The person of that number, or null. */
    private Person known(int person) {
        return person >= 0 && person < peopleCount ? people[person] : null;
    }

    private boolean isInk(int number) {
        return number >= 0 && number < inkCount;
    }

    private int toldPeople() {
        int told = 0;
        for (int i = 0; i < peopleCount; i++) {
            Person one = known(i);
            if (one != null && one.told != NO_TEXT) {
                told++;
            }
        }
        return told;
    }

    // ---- by how few inks

    /** The set of fewest inks, the least of like ones, by which all read what they are told; or NONE. */
    private int fewestInks() {
        for (int size = 0; size <= inkCount; size++) {
            for (int set = 0; set < (1 << inkCount); set++) {
                if (Integer.bitCount(set) == size && suffices(set)) {
                    return set;
                }
            }
        }
        return NONE;
    }

    private boolean suffices(int set) {
        for (int cell = 0; cell < CELLS; cell++) {
            if (!sufficesAt(cell, set)) {
                return false;
            }
        }
        return true;
    }

    /** Each ink is on a cell or not, whatever it is on elsewhere: each part of the set may be what a cell gets. */
    private boolean sufficesAt(int cell, int set) {
        for (int part = 0; part <= set; part++) {
            if ((part & ~set) == 0 && isAsTold(cell, hueAt(theSign, cell) | unionOf(part))) {
                return true;
            }
        }
        return false;
    }

    private boolean isAsTold(int cell, int hue) {
        for (int i = 0; i < peopleCount; i++) {
            Person one = known(i);
            if (one != null && one.told != NO_TEXT && one.glimpse(hue) != hueAt(one.told, cell)) {
                return false;
            }
        }
        return true;
    }

    private int unionOf(int set) {
        int union = 0;
        for (int i = 0; i < inkCount; i++) {
            if (holds(set, i)) {
                union |= inks[i];
            }
        }
        return union;
    }

    // ---- who it can be that said what the cards tell

    private Person trial(int kind, int left, int right) {
        Person one = trials[isKind(kind) ? kind : PERSON];
        one.left = left;
        one.right = right;
        return one;
    }

    private Person candidate(int code) {
        return trial(code / (HUES * HUES), code / HUES % HUES, code % HUES);
    }

    /** Counts, of those whom the cards leave, what each would say of each hue: how many they are. */
    private int countSayings() {
        for (int i = 0; i < HUES * HUES; i++) {
            sayings[i] = 0;
        }
        int fitting = 0;
        for (int code = 0; code < CANDIDATES; code++) {
            Person one = candidate(code);
            if (cards.fit(one)) {
                fitting++;
                for (int shown = 0; shown < HUES; shown++) {
                    int said = one.glimpse(shown);
                    if (isHue(said)) {
                        sayings[HUES * shown + said]++;
                    }
                }
            }
        }
        return fitting;
    }

    private int worstLeft(int shown) {
        int worst = 0;
        for (int said = 0; said < HUES; said++) {
            worst = Math.max(worst, sayings[HUES * shown + said]);
        }
        return worst;
    }

    // ---- chance

    private static int nextSeed(int seed) {
        return (int) ((1103515245L * seed + 12345L) & TOP_SEED);
    }

    /** The rest by a power of two is its lowest bits. */
    private static int drawn(int seed, int powerOfTwo) {
        return (seed >> 16) & (powerOfTwo - 1);
    }

    /** The letters that came, up to ten. */
    private static final class Page {
        private final int[] codes = new int[MOST_LETTERS];
        private int size;

        void put(int code) {
            if (size < MOST_LETTERS) {
                codes[size] = code;
                size++;
            }
        }

        void empty() {
            size = 0;
        }

        /** How many letters, from the first, are such as a text of six hues begins with. */
        int soundLetters() {
            int place = 0;
            while (place < size && place < CELLS && isHue(codes[place] - '0')) {
                place++;
            }
            return place;
        }

        int asText() {
            if (size != CELLS || soundLetters() != CELLS) {
                return NO_TEXT;
            }
            int text = 0;
            for (int cell = 0; cell < CELLS; cell++) {
                text = withHue(text, cell, codes[cell] - '0');
            }
            return text;
        }
    }

    /** One who sees what either eye sees; the other kinds make something else of both eyes. */
    private static class Person {
        int left;
        int right;
        int told = NO_TEXT;
        private int keptLeft;
        private int keptRight;
        private int keptTold = NO_TEXT;

        int kind() {
            return PERSON;
        }

        int glimpse(int hue) {
            return hue & (left | right);
        }

        final int reading(int text) {
            int read = 0;
            for (int cell = 0; cell < CELLS; cell++) {
                read = withHue(read, cell, glimpse(hueAt(text, cell)));
            }
            return read;
        }

        final int truths() {
            int truths = 0;
            for (int hue = 0; hue < HUES; hue++) {
                if (glimpse(hue) == hue) {
                    truths++;
                }
            }
            return truths;
        }

        /** A number that is no part's changes nothing. */
        final void lose(int which, int part) {
            if (part < 0 || part >= PARTS) {
                return;
            }
            if (which == 0) {
                left &= ~(1 << part);
            } else {
                right &= ~(1 << part);
            }
        }

        final void keep() {
            keptLeft = left;
            keptRight = right;
            keptTold = told;
        }

        final void goBack() {
            left = keptLeft;
            right = keptRight;
            told = keptTold;
        }
    }

    private static final class Arguer extends Person {
        int kind() {
            return ARGUER;
        }

        int glimpse(int hue) {
            return hue & (left ^ right);
        }
    }

    private static final class Old extends Person {
        int kind() {
            return OLD;
        }

        int glimpse(int hue) {
            return hue & left & right;
        }
    }

    private static class Winker extends Person {
        int kind() {
            return WINKER;
        }

        int glimpse(int hue) {
            int byLeft = hue & left;
            return byLeft != 0 ? byLeft : hue & right;
        }
    }

    private static final class Spy extends Winker {
        int kind() {
            return SPY;
        }

        int glimpse(int hue) {
            return hue & right;
        }
    }

    /** What one who is not known said that he sees, up to eight times. */
    private static final class Cards {
        private final int[] shown = new int[MOST_CARDS];
        private final int[] said = new int[MOST_CARDS];
        private final int[] keptShown = new int[MOST_CARDS];
        private final int[] keptSaid = new int[MOST_CARDS];
        private int size;
        private int keptSize;

        void put(int hue, int answer) {
            if (size < MOST_CARDS) {
                shown[size] = hue;
                said[size] = answer;
                size++;
            }
        }

        void clear() {
            size = 0;
        }

        boolean fit(Person one) {
            for (int i = 0; i < size; i++) {
                if (one.glimpse(shown[i]) != said[i]) {
                    return false;
                }
            }
            return true;
        }

        void keep() {
            System.arraycopy(shown, 0, keptShown, 0, MOST_CARDS);
            System.arraycopy(said, 0, keptSaid, 0, MOST_CARDS);
            keptSize = size;
        }

        void goBack() {
            System.arraycopy(keptShown, 0, shown, 0, MOST_CARDS);
            System.arraycopy(keptSaid, 0, said, 0, MOST_CARDS);
            size = keptSize;
        }
    }
}
