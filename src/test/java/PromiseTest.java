/** Each promise of the document by calls whose answers were worked out by hand from its words. */
public final class PromiseTest {
    private static final int NONE = -1, UNKNOWN = -101, OUTSIDE = -102, STATE = -103, FULL = -104;
    private static final int PERSON = 0, ARGUER = 1, OLD = 2, WINKER = 3, SPY = 4;
    private static final int[] FAR = {Integer.MIN_VALUE, -2, -1, 1000, Integer.MAX_VALUE};

    private static Due due;
    private static boolean failed = false;

    public static void main(String[] args) {
        start(1); newObject(); end();
        start(2); letter(); end();
        start(3); blank(); end();
        start(4); fault(); end();
        start(5); sign(); end();
        start(6); hue(); end();
        start(7); layer(); end();
        start(8); person(); end();
        start(9); about(); end();
        start(10); as(); end();
        start(11); sees(); end();
        start(12); eye(); end();
        start(13); ink(); end();
        start(14); inkOf(); end();
        start(15); word(); end();
        start(16); unword(); end();
        start(17); differ(); end();
        start(18); alike(); end();
        start(19); few(); end();
        start(20); card(); end();
        start(21); forget(); end();
        start(22); who(); end();
        start(23); next(); end();
        start(24); ageing(); end();
        start(25); image(); end();
        start(26); restore(); end();
        start(27); count(); end();
        start(28); digest(); end();
        System.out.println(failed ? "promises are broken" : "the promises hold");
        if (failed) {
            System.exit(1);
        }
    }

    private static void start(int promise) {
        due = new Due("promise " + promise);
    }

    private static void end() {
        failed |= due.failed();
    }

    private static void is(String call, long got, long want) {
        due.same(call, got, want);
    }

    private static EachEye page(EachEye x, String text) {
        for (int i = 0; i < text.length(); i++) {
            x.letter(text.charAt(i));
        }
        return x;
    }

    private static EachEye withPage(String text) {
        return page(new EachEye(), text);
    }

    private static EachEye withSign(String text) {
        EachEye x = withPage(text);
        x.sign();
        return x;
    }

    private static void tell(EachEye x, int person, String text) {
        page(x, text);
        x.word(person);
    }

    private static void newObject() {
        EachEye x = new EachEye();
        for (int what = 0; what <= 8; what++) {
            is("count(" + what + ")", x.count(what), 0);
        }
        is("hue(0)", x.hue(0), UNKNOWN);
        is("fault()", x.fault(), 0);
        is("about(0, 0)", x.about(0, 0), UNKNOWN);
        is("inkOf(0)", x.inkOf(0), UNKNOWN);
        is("few(0)", x.few(0), STATE);
        is("image()", x.image(), STATE);
        is("restore()", x.restore(), STATE);
        EachEye other = withSign("123456");
        is("another object's hue(0)", new EachEye().hue(0), UNKNOWN);
        is("its own hue(0)", other.hue(0), 1);
    }

    private static void letter() {
        EachEye x = new EachEye();
        for (int code : new int[] {0, 127, -1, 128, Integer.MIN_VALUE, Integer.MAX_VALUE}) {
            is("letter(" + code + ")", x.letter(code), OUTSIDE);
        }
        is("count(6)", x.count(6), 0);
        is("letter(1)", x.letter(1), 1);
        is("letter(126)", x.letter(126), 2);
        for (int i = 3; i <= 10; i++) {
            is("letter(50)", x.letter(50), i);
        }
        is("letter(50), the 11th", x.letter(50), FULL);
        is("letter(0) on a full page", x.letter(0), OUTSIDE);
        is("count(6)", x.count(6), 10);
        x.blank();
        is("letter(50)", x.letter(50), 1);
    }

    private static void blank() {
        EachEye x = withPage("1234567890");
        is("blank()", x.blank(), 10);
        is("blank()", x.blank(), 0);
        is("count(6)", x.count(6), 0);
        page(x, "1");
        is("blank()", x.blank(), 1);
        page(x, "123456");
        is("sign()", x.sign(), 6);
        is("blank()", x.blank(), 0);
        is("hue(5)", x.hue(5), 6);
    }

    private static void fault() {
        is("fault() of 07", withPage("07").fault(), 2);
        is("fault() of 012345", withPage("012345").fault(), 6);
        is("fault() of 0123456", withPage("0123456").fault(), 6);
        is("fault() of 0123456701", withPage("0123456701").fault(), 6);
        is("fault() of 8", withPage("8").fault(), 0);
        is("fault() of 07/7", withPage("07/7").fault(), 2);
        is("fault() of 01234a", withPage("01234a").fault(), 5);
        is("fault() of 0a1b", withPage("0a1b").fault(), 1);
        EachEye x = withPage("12");
        x.fault();
        is("count(6) behind it", x.count(6), 2);
        x.blank();
        page(x, "7");
        is("fault() where a longer page was", x.fault(), 1);
    }

    private static void sign() {
        EachEye x = withPage("102030");
        is("sign()", x.sign(), 3);
        is("count(6)", x.count(6), 0);
        is("count(7)", x.count(7), 1);
        for (String text : new String[] {"", "12345", "1234567", "12345 ", "812345", "12/456", "0000000000"}) {
            page(x, text);
            is("sign() of " + text, x.sign(), STATE);
            is("the letters that stay", x.blank(), text.length());
        }
        is("hue(2) as before", x.hue(2), 2);
        is("count(7) as before", x.count(7), 1);
        x.person(PERSON, 1, 2);
        x.ink(3);
        x.layer(0, 2);
        x.card(1, 1);
        x.image();
        tell(x, 0, "000000");
        page(x, "000007");
        is("sign(), another one", x.sign(), 1);
        is("hue(0)", x.hue(0), 0);
        is("hue(5)", x.hue(5), 7);
        for (int what = 1; what <= 6; what++) {
            is("count(" + what + ")", x.count(what), 0);
        }
        is("count(7)", x.count(7), 2);
        is("inkOf(0)", x.inkOf(0), UNKNOWN);
        is("about(0, 0)", x.about(0, 0), UNKNOWN);
        is("restore()", x.restore(), STATE);
        is("person(1, 1, 2)", x.person(ARGUER, 1, 2), 0);
        is("about(0, 20)", x.about(0, 20), NONE);
        is("sign() of 000000", withPage("000000").sign(), 0);
        x = new EachEye();
        x.card(1, 1);
        page(x, "111111").sign();
        is("count(5) behind the first sign", x.count(5), 0);
        x.who(0);
        page(x, "111111").sign();
        is("count(8) behind a sign", x.count(8), 1);
    }

    private static void hue() {
        EachEye x = withPage("765430");
        is("hue(0) without a sign", x.hue(0), UNKNOWN);
        x.sign();
        int[] want = {7, 6, 5, 4, 3, 0};
        for (int cell = 0; cell < 6; cell++) {
            is("hue(" + cell + ")", x.hue(cell), want[cell]);
        }
        is("hue(6)", x.hue(6), UNKNOWN);
        for (int cell : FAR) {
            is("hue(" + cell + ")", x.hue(cell), UNKNOWN);
        }
    }

    private static void layer() {
        EachEye x = withSign("012340");
        is("layer(0, 1) without inks", x.layer(0, 1), UNKNOWN);
        x.ink(3);
        is("layer(1, 99)", x.layer(1, 99), UNKNOWN);
        is("layer(0, 64)", x.layer(0, 64), OUTSIDE);
        for (int far : FAR) {
            is("layer(" + far + ", 0)", x.layer(far, 0), UNKNOWN);
            is("layer(0, " + far + ")", x.layer(0, far), OUTSIDE);
        }
        is("count(3)", x.count(3), 0);
        is("layer(0, 0)", x.layer(0, 0), 0);
        is("count(3)", x.count(3), 1);
        is("layer(0, 31)", x.layer(0, 31), 4);
        int[] want = {3, 3, 3, 3, 7, 0};
        for (int cell = 0; cell < 6; cell++) {
            is("hue(" + cell + ")", x.hue(cell), want[cell]);
        }
        is("layer(0, 63)", x.layer(0, 63), 1);
        is("layer(0, 63)", x.layer(0, 63), 0);
        is("count(3)", x.count(3), 4);
        is("hue(5)", x.hue(5), 3);
        x = withSign("000000");
        x.ink(7);
        x.layer(0, 32);
        is("hue(5), the highest bit", x.hue(5), 7);
        is("hue(0)", x.hue(0), 0);
    }

    private static void person() {
        EachEye x = new EachEye();
        is("person(0, 0, 0) without a sign", x.person(PERSON, 0, 0), STATE);
        is("person(5, 0, 0) without a sign", x.person(5, 0, 0), OUTSIDE);
        page(x, "111111").sign();
        is("person(0, 8, 0)", x.person(PERSON, 8, 0), OUTSIDE);
        is("person(0, 0, 8)", x.person(PERSON, 0, 8), OUTSIDE);
        for (int far : FAR) {
            is("person(" + far + ", 0, 0)", x.person(far, 0, 0), OUTSIDE);
            is("person(0, " + far + ", 0)", x.person(0, far, 0), OUTSIDE);
            is("person(0, 0, " + far + ")", x.person(0, 0, far), OUTSIDE);
        }
        is("person(4, 7, 0)", x.person(SPY, 7, 0), 0);
        is("person(0, 0, 7)", x.person(PERSON, 0, 7), 1);
        is("person(1, 1, 7)", x.person(ARGUER, 1, 7), 2);
        is("person(2, 1, 7)", x.person(OLD, 1, 7), 3);
        is("person(3, 1, 7)", x.person(WINKER, 1, 7), FULL);
        is("person(5, 1, 7) when full", x.person(5, 1, 7), OUTSIDE);
        is("count(1)", x.count(1), 4);
        is("about(3, 0)", x.about(3, 0), OLD);
    }

    private static void about() {
        EachEye x = withSign("012347");
        is("about(0, 0) of nobody", x.about(0, 0), UNKNOWN);
        x.person(WINKER, 5, 2);
        tell(x, 0, "765432");
        int[] known = {WINKER, 5, 2, 5};
        for (int what = 0; what < 4; what++) {
            is("about(0, " + what + ")", x.about(0, what), known[what]);
        }
        int[] reads = {0, 1, 2, 1, 4, 5};
        for (int cell = 0; cell < 6; cell++) {
            is("about(0, 1" + cell + ")", x.about(0, 10 + cell), reads[cell]);
            is("about(0, 2" + cell + ")", x.about(0, 20 + cell), 7 - cell);
        }
        for (int what : new int[] {4, 9, 16, 19, 26, -1, Integer.MIN_VALUE, Integer.MAX_VALUE}) {
            is("about(0, " + what + ")", x.about(0, what), OUTSIDE);
            is("about(1, " + what + ")", x.about(1, what), UNKNOWN);
        }
        for (int far : FAR) {
            is("about(" + far + ", 0)", x.about(far, 0), UNKNOWN);
        }
        x.person(PERSON, 7, 0);
        for (int cell = 0; cell < 6; cell++) {
            is("about(1, 2" + cell + ")", x.about(1, 20 + cell), NONE);
        }
        is("about(1, 3)", x.about(1, 3), 8);
        x.person(OLD, 1, 6);
        is("about(2, 3)", x.about(2, 3), 1);
        x.ink(4);
        x.layer(0, 1);
        is("about(0, 10) behind a layer", x.about(0, 10), 4);
    }

    private static void as() {
        EachEye x = withSign("111111");
        is("as(0, 0) of nobody", x.as(0, 0), UNKNOWN);
        boolean[][] isSo = {
            {true, false, false, false, false},
            {true, true, false, false, false},
            {true, false, true, false, false},
            {true, false, false, true, false},
        };
        for (int kind = 0; kind < 4; kind++) {
            x.person(kind, 1, 2);
            for (int asKind = 0; asKind < 5; asKind++) {
                is("as(" + kind + ", " + asKind + ")", x.as(kind, asKind), isSo[kind][asKind] ? kind : NONE);
            }
        }
        is("as(0, 5)", x.as(0, 5), OUTSIDE);
        is("as(4, 5)", x.as(4, 5), UNKNOWN);
        for (int far : FAR) {
            is("as(0, " + far + ")", x.as(0, far), OUTSIDE);
            is("as(" + far + ", 0)", x.as(far, 0), UNKNOWN);
        }
        page(x, "111111").sign();
        x.person(PERSON, 1, 1);
        x.person(SPY, 1, 1);
        int[] spy = {1, NONE, NONE, 1, 1};
        for (int kind = 0; kind < 5; kind++) {
            is("as(1, " + kind + ") of a spy", x.as(1, kind), spy[kind]);
        }
    }

    private static void sees() {
        EachEye x = withSign("111111");
        is("sees(0, 0) of nobody", x.sees(0, 0), UNKNOWN);
        int[][] want = {
            {0, 1, 2, 3, 4, 5, 6, 7},
            {0, 1, 0, 1, 4, 5, 4, 5},
            {0, 0, 2, 2, 0, 0, 2, 2},
            {0, 1, 2, 3, 4, 1, 2, 3},
        };
        for (int kind = 0; kind < 4; kind++) {
            x.person(kind, 3, 6);
            for (int hue = 0; hue < 8; hue++) {
                is("sees(" + kind + ", " + hue + ")", x.sees(kind, hue), want[kind][hue]);
            }
        }
        is("sees(0, 8)", x.sees(0, 8), OUTSIDE);
        is("sees(4, 8)", x.sees(4, 8), UNKNOWN);
        for (int far : FAR) {
            is("sees(0, " + far + ")", x.sees(0, far), OUTSIDE);
            is("sees(" + far + ", 0)", x.sees(far, 0), UNKNOWN);
        }
        page(x, "111111").sign();
        x.person(SPY, 3, 6);
        x.person(PERSON, 1, 2);
        for (int hue = 0; hue < 8; hue++) {
            is("sees(0, " + hue + ") of a spy", x.sees(0, hue), hue & 6);
            is("sees(1, " + hue + ") without blue", x.sees(1, hue), hue & 3);
        }
    }

    private static void eye() {
        EachEye x = withSign("777777");
        is("eye(0, 0, 0) of nobody", x.eye(0, 0, 0), UNKNOWN);
        x.person(PERSON, 1, 2);
        is("eye(0, 0, 4)", x.eye(0, 0, 4), 1);
        is("eye(0, 1, 0)", x.eye(0, 1, 0), 2);
        is("eye(0, 0, 4)", x.eye(0, 0, 4), 4);
        is("about(0, 1)", x.about(0, 1), 4);
        is("about(0, 2)", x.about(0, 2), 0);
        is("about(0, 10)", x.about(0, 10), 4);
        is("eye(0, 2, 1)", x.eye(0, 2, 1), OUTSIDE);
        is("eye(0, 0, 8)", x.eye(0, 0, 8), OUTSIDE);
        is("eye(1, 2, 8)", x.eye(1, 2, 8), UNKNOWN);
        for (int far : FAR) {
            is("eye(" + far + ", 0, 0)", x.eye(far, 0, 0), UNKNOWN);
            is("eye(0, " + far + ", 0)", x.eye(0, far, 0), OUTSIDE);
            is("eye(0, 1, " + far + ")", x.eye(0, 1, far), OUTSIDE);
        }
        is("eye(0, 0, 7)", x.eye(0, 0, 7), 4);
        is("eye(0, 1, 7)", x.eye(0, 1, 7), 0);
    }

    private static void ink() {
        EachEye x = new EachEye();
        is("ink(1) without a sign", x.ink(1), STATE);
        is("ink(0) without a sign", x.ink(0), OUTSIDE);
        page(x, "000000").sign();
        for (int far : FAR) {
            is("ink(" + far + ")", x.ink(far), OUTSIDE);
        }
        is("ink(0)", x.ink(0), OUTSIDE);
        is("ink(8)", x.ink(8), OUTSIDE);
        is("count(2)", x.count(2), 0);
        int[] hues = {1, 7, 7, 2, 4};
        for (int i = 0; i < 5; i++) {
            is("ink(" + hues[i] + ")", x.ink(hues[i]), i);
        }
        is("ink(1), the sixth", x.ink(1), FULL);
        is("ink(8), the sixth", x.ink(8), OUTSIDE);
        is("count(2)", x.count(2), 5);
    }

    private static void inkOf() {
        EachEye x = withSign("000000");
        is("inkOf(0)", x.inkOf(0), UNKNOWN);
        x.ink(6);
        x.ink(1);
        is("inkOf(0)", x.inkOf(0), 6);
        is("inkOf(1)", x.inkOf(1), 1);
        is("inkOf(2)", x.inkOf(2), UNKNOWN);
        for (int far : FAR) {
            is("inkOf(" + far + ")", x.inkOf(far), UNKNOWN);
        }
    }

    private static void word() {
        EachEye x = withSign("000000");
        is("word(0) of nobody, with no word", x.word(0), UNKNOWN);
        x.person(PERSON, 1, 2);
        x.person(OLD, 1, 2);
        is("word(0) of an empty page", x.word(0), STATE);
        page(x, "1234567");
        is("word(0) of seven hues", x.word(0), STATE);
        is("the letters that stay", x.blank(), 7);
        page(x, "123458");
        is("word(0) of an 8", x.word(0), STATE);
        is("about(0, 20)", x.about(0, 20), NONE);
        x.blank();
        page(x, "123456");
        is("word(2)", x.word(2), UNKNOWN);
        is("word(1)", x.word(1), 1);
        is("count(6)", x.count(6), 0);
        is("about(1, 25)", x.about(1, 25), 6);
        page(x, "000000");
        is("word(0)", x.word(0), 2);
        is("about(0, 20)", x.about(0, 20), 0);
        page(x, "765432");
        is("word(1) anew", x.word(1), 2);
        is("about(1, 20)", x.about(1, 20), 7);
        is("hue(0): the sign stays", x.hue(0), 0);
        for (int far : FAR) {
            is("word(" + far + ")", x.word(far), UNKNOWN);
        }
    }

    private static void unword() {
        EachEye x = withSign("000000");
        is("unword(0) of nobody", x.unword(0), UNKNOWN);
        x.person(PERSON, 1, 2);
        x.person(PERSON, 1, 2);
        is("unword(0)", x.unword(0), 0);
        tell(x, 0, "000000");
        tell(x, 1, "111111");
        is("unword(0)", x.unword(0), 1);
        is("unword(0) again", x.unword(0), 0);
        is("count(4)", x.count(4), 1);
        is("about(0, 20)", x.about(0, 20), NONE);
        is("about(1, 20)", x.about(1, 20), 1);
        is("unword(2)", x.unword(2), UNKNOWN);
        for (int far : FAR) {
            is("unword(" + far + ")", x.unword(far), UNKNOWN);
        }
    }

    private static void differ() {
        EachEye x = withSign("022664");
        is("differ(0, 0) of nobody", x.differ(0, 0), UNKNOWN);
        x.person(PERSON, 3, 0);
        x.person(PERSON, 7, 7);
        x.person(OLD, 7, 1);
        x.person(SPY, 0, 7);
        is("differ(0, 0)", x.differ(0, 0), NONE);
        is("differ(0, 1)", x.differ(0, 1), 3);
        is("differ(1, 0)", x.differ(1, 0), 3);
        is("differ(0, 2)", x.differ(0, 2), 1);
        is("differ(1, 3)", x.differ(1, 3), NONE);
        x.eye(3, 1, 3);
        is("differ(1, 3)", x.differ(1, 3), 3);
        x.eye(0, 0, 2);
        is("differ(0, 3)", x.differ(0, 3), NONE);
        x.ink(1);
        x.layer(0, 32);
        is("differ(0, 3), the last cell", x.differ(0, 3), 5);
        is("differ(0, 4)", x.differ(0, 4), UNKNOWN);
        is("differ(4, 0)", x.differ(4, 0), UNKNOWN);
        for (int far : FAR) {
            is("differ(0, " + far + ")", x.differ(0, far), UNKNOWN);
            is("differ(" + far + ", 0)", x.differ(far, 0), UNKNOWN);
        }
    }

    private static void alike() {
        EachEye x = withSign("000000");
        is("alike(0, 0) of nobody", x.alike(0, 0), UNKNOWN);
        x.person(PERSON, 3, 0);
        x.person(PERSON, 7, 7);
        x.person(OLD, 7, 0);
        x.person(WINKER, 1, 2);
        is("alike(0, 0)", x.alike(0, 0), 8);
        is("alike(0, 1)", x.alike(0, 1), 4);
        is("alike(1, 2)", x.alike(1, 2), 1);
        is("alike(0, 2)", x.alike(0, 2), 2);
        is("alike(0, 3)", x.alike(0, 3), 6);
        is("alike(3, 0)", x.alike(3, 0), 6);
        is("alike(0, 4)", x.alike(0, 4), UNKNOWN);
        is("alike(4, 0)", x.alike(4, 0), UNKNOWN);
        for (int far : FAR) {
            is("alike(0, " + far + ")", x.alike(0, far), UNKNOWN);
            is("alike(" + far + ", 0)", x.alike(far, 0), UNKNOWN);
        }
    }

    private static void isFew(String when, EachEye x, int few, int which) {
        is("few(0) " + when, x.few(0), few);
        is("few(1) " + when, x.few(1), which);
    }

    private static void few() {
        EachEye x = new EachEye();
        is("few(0) without a sign", x.few(0), STATE);
        is("few(2) without a sign", x.few(2), OUTSIDE);
        page(x, "000000").sign();
        for (int far : FAR) {
            is("few(" + far + ")", x.few(far), OUTSIDE);
        }
        isFew("of nobody", x, 0, 0);
        x.person(PERSON, 7, 7);
        x.person(SPY, 7, 1);
        isFew("when none is told", x, 0, 0);
        tell(x, 0, "000000");
        isFew("when it is so already", x, 0, 0);
        tell(x, 0, "012345");
        isFew("without inks", x, NONE, NONE);
        x.ink(4);
        x.ink(2);
        x.ink(2);
        isFew("without red", x, NONE, NONE);
        x.ink(1);
        isFew("with all parts", x, 3, 1 + 2 + 8);
        tell(x, 0, "033333");
        isFew("for two parts", x, 2, 2 + 8);
        x.ink(3);
        isFew("for two parts and an ink of both", x, 1, 16);
        tell(x, 0, "012345");
        isFew("of like ones the least", x, 3, 1 + 2 + 8);
        tell(x, 1, "010101");
        isFew("with a second one who reads so", x, 3, 1 + 2 + 8);
        tell(x, 1, "000000");
        isFew("with a second one who can't", x, NONE, NONE);
        x.unword(0);
        isFew("for the second one alone", x, 0, 0);
        tell(x, 1, "100000");
        isFew("by red alone", x, 1, 8);
        x.layer(3, 2);
        isFew("when a layer was too much", x, NONE, NONE);
        is("count(3)", x.count(3), 1);
        is("hue(0): nothing is inked", x.hue(0), 0);
        x = withSign("000000");
        x.person(OLD, 1, 3);
        x.ink(7);
        x.ink(1);
        tell(x, 0, "111111");
        isFew("by more than he sees", x, 1, 1);
        x = withSign("000000");
        x.person(WINKER, 1, 2);
        x.ink(1);
        x.ink(2);
        tell(x, 0, "121212");
        isFew("of a winker", x, 2, 3);
        tell(x, 0, "333333");
        isFew("of a winker who never sees both", x, NONE, NONE);
    }

    private static void card() {
        EachEye x = new EachEye();
        is("card(8, 0)", x.card(8, 0), OUTSIDE);
        is("card(0, 8)", x.card(0, 8), OUTSIDE);
        for (int far : FAR) {
            is("card(" + far + ", 0)", x.card(far, 0), OUTSIDE);
            is("card(0, " + far + ")", x.card(0, far), OUTSIDE);
        }
        is("count(5)", x.count(5), 0);
        for (int i = 1; i <= 8; i++) {
            is("card(0, 0)", x.card(i == 8 ? 7 : 0, i == 8 ? 7 : 0), i);
        }
        is("card(0, 0), the ninth", x.card(0, 0), FULL);
        is("card(8, 0), the ninth", x.card(8, 0), OUTSIDE);
        is("count(5)", x.count(5), 8);
    }

    private static void forget() {
        EachEye x = new EachEye();
        is("forget()", x.forget(), 0);
        x.card(0, 1);
        x.card(0, 1);
        is("who(0)", x.who(0), 0);
        is("forget()", x.forget(), 2);
        is("forget()", x.forget(), 0);
        is("who(0)", x.who(0), 320);
        is("card(1, 1)", x.card(1, 1), 1);
    }

    private static void who() {
        EachEye x = new EachEye();
        is("who(-1)", x.who(-1), OUTSIDE);
        is("who(2)", x.who(2), OUTSIDE);
        is("who(0)", x.who(0), 320);
        is("who(1)", x.who(1), 0);
        x.card(7, 7);
        // 27 persons, 8 arguers, 1 old one, 9 winkers (also 0 and 7), 8 spies
        is("who(0) of 7, 7", x.who(0), 8 + 27 + 1 + 9 + 8);
        is("who(1) of 7, 7", x.who(1), 7);
        x.forget();
        x.card(3, 1);
        x.card(2, 2);
        // not an old one, a person or an arguer, nor a spy: a winker of whom green is the right eye's alone
        is("who(0)", x.who(0), 4 * 2);
        is("who(1)", x.who(1), 64 * 3 + 8 * 1 + 2);
        x.card(1, 0);
        is("who(0) of nobody", x.who(0), 0);
        is("who(1) of nobody", x.who(1), NONE);
        is("count(8)", x.count(8), 8);
        for (int i = 9; i <= 60; i++) {
            is("who(0)", x.who(0), 0);
        }
        is("who(0), the 61st", x.who(0), STATE);
        is("who(2), the 61st", x.who(2), OUTSIDE);
        is("next(), the 61st", x.next(), STATE);
        page(x, "000000").sign();
        is("who(0) behind a sign", x.who(0), STATE);
        is("count(8)", x.count(8), 60);
    }

    private static void next() {
        EachEye x = new EachEye();
        is("next()", x.next(), 7);
        x.card(7, 3);
        is("next() behind 7, 3", x.next(), 4);
        x.forget();
        x.card(0, 1);
        is("next() of nobody", x.next(), NONE);
        is("count(8)", x.count(8), 3);
        x.forget();
        // all that are left see each hue as it is: each hue leaves all, and 0 is the least of them
        x.card(1, 1);
        x.card(2, 2);
        x.card(4, 4);
        x.card(3, 3);
        x.card(5, 5);
        x.card(6, 6);
        x.card(7, 7);
        is("next() when no hue tells", x.next(), 0);
        for (int i = 5; i <= 60; i++) {
            is("next()", x.next(), 0);
        }
        is("next(), the 61st", x.next(), STATE);
        is("who(1), the 61st", x.who(1), STATE);
        for (int hue = 0; hue < 8; hue++) {
            for (int said = 0; said < 8; said++) {
                x = new EachEye();
                x.card(hue, said);
                is("next() behind one card", x.next(), nextByHand(new int[][] {{hue, said}}));
                x.card(3, said & 3);
                is("next() behind two", x.next(), nextByHand(new int[][] {{hue, said}, {3, said & 3}}));
            }
        }
    }

    /** By what who() tells behind each card that could come; nobody is left if it is 0 behind all. */
    private static int nextByHand(int[][] cards) {
        int best = NONE;
        int fewest = Integer.MAX_VALUE;
        for (int hue = 0; hue < 8; hue++) {
            int worst = 0;
            for (int said = 0; said < 8; said++) {
                EachEye y = new EachEye();
                for (int[] card : cards) {
                    y.card(card[0], card[1]);
                }
                y.card(hue, said);
                worst = Math.max(worst, y.who(0));
            }
            if (worst > 0 && worst < fewest) {
                fewest = worst;
                best = hue;
            }
        }
        return best;
    }

    private static void ageing() {
        EachEye x = withSign("777777");
        is("ageing(0, 1, 0, 0) of nobody", x.ageing(0, 1, 0, 0), UNKNOWN);
        x.person(PERSON, 7, 7);
        is("ageing(0, 0, 0, 0)", x.ageing(0, 0, 0, 0), OUTSIDE);
        is("ageing(0, 61, 0, 0)", x.ageing(0, 61, 0, 0), OUTSIDE);
        is("ageing(0, 1, -1, 0)", x.ageing(0, 1, -1, 0), OUTSIDE);
        is("ageing(0, 1, 0, 3)", x.ageing(0, 1, 0, 3), OUTSIDE);
        is("ageing(1, 0, -1, 3)", x.ageing(1, 0, -1, 3), UNKNOWN);
        for (int far : FAR) {
            is("ageing(" + far + ", 1, 0, 0)", x.ageing(far, 1, 0, 0), UNKNOWN);
            is("ageing(0, " + far + ", 0, 0)", x.ageing(0, far, 0, 0), OUTSIDE);
            is("ageing(0, 1, 0, " + far + ")", x.ageing(0, 1, 0, far), OUTSIDE);
        }
        // seed 0: 12345, a draw of 2 from 0; then 1406932606, whose upper half is 21468, by 8 a 4
        is("ageing(0, 1, 0, 2)", x.ageing(0, 1, 0, 2), 1406932606);
        is("ageing(0, 1, 0, 1)", x.ageing(0, 1, 0, 1), 6);
        is("ageing(0, 1, 0, 0)", x.ageing(0, 1, 0, 0), NONE);
        is("ageing(0, 60, MAX, 2)", x.ageing(0, 60, Integer.MAX_VALUE, 2), seedBehind(Integer.MAX_VALUE, 120));
        for (int seed = 0; seed < 40; seed++) {
            for (int kind = 0; kind < 5; kind++) {
                ageingOf(kind, seed);
            }
        }
        is("about(0, 1) as before", x.about(0, 1), 7);
        is("about(0, 2) as before", x.about(0, 2), 7);
    }

    private static int seedBehind(int seed, int draws) {
        long s = seed;
        for (int i = 0; i < draws; i++) {
            s = (1103515245L * s + 12345L) % (1L << 31);
        }
        return (int) s;
    }

    /** The same, by eyes that are changed in truth on an object of their own. */
    private static void ageingOf(int kind, int seed) {
        EachEye x = withSign("135724");
        x.person(kind, 6, 3);
        EachEye y = withSign("135724");
        y.person(kind, 6, 3);
        y.person(kind, 6, 3);
        int changed = NONE;
        for (int year = 1; year <= 12; year++) {
            int which = seedBehind(seed, 2 * year - 1) / 65536 % 2;
            int part = seedBehind(seed, 2 * year) / 65536 % 8;
            if (part < 3) {
                y.eye(1, which, y.about(1, 1 + which) & ~(1 << part));
            }
            if (changed == NONE && y.differ(0, 1) != NONE) {
                changed = year;
            }
            int parts = Integer.bitCount(y.about(1, 1)) + Integer.bitCount(y.about(1, 2));
            String call = "ageing(0, " + year + ", " + seed + ", ..) of kind " + kind;
            is(call + " 0", x.ageing(0, year, seed, 0), changed);
            is(call + " 1", x.ageing(0, year, seed, 1), parts);
        }
    }

    private static void image() {
        EachEye x = new EachEye();
        is("image() without a sign", x.image(), STATE);
        page(x, "000000").sign();
        is("image()", x.image(), 0);
        x.person(PERSON, 1, 2);
        x.person(PERSON, 1, 2);
        is("image()", x.image(), 2);
        x.person(PERSON, 1, 2);
        is("restore(): the latest", x.restore(), 2);
        x.eye(0, 0, 4);
        is("image()", x.image(), 2);
        x.eye(0, 0, 5);
        x.restore();
        is("about(0, 1)", x.about(0, 1), 4);
    }

    private static void restore() {
        EachEye x = withSign("100000");
        is("restore() without an image", x.restore(), STATE);
        x.person(PERSON, 1, 2);
        x.person(WINKER, 3, 4);
        x.ink(2);
        x.card(1, 1);
        x.card(2, 0);
        tell(x, 0, "123456");
        x.layer(0, 2);
        x.image();
        x.person(SPY, 5, 5);
        x.ink(4);
        x.layer(1, 63);
        x.eye(0, 0, 7);
        x.eye(1, 1, 7);
        x.unword(0);
        tell(x, 1, "654321");
        x.forget();
        x.card(7, 7);
        x.who(0);
        page(x, "77");
        is("restore()", x.restore(), 2);
        isAsAtTheImage(x);
        is("person(2, 0, 0)", x.person(OLD, 0, 0), 2);
        is("about(2, 0)", x.about(2, 0), OLD);
        is("about(2, 20)", x.about(2, 20), NONE);
        tell(x, 0, "777777");
        x.blank();
        is("restore() again", x.restore(), 2);
        page(x, "77");
        isAsAtTheImage(x);
        x.blank();
        page(x, "100000").sign();
        is("restore() behind the same text", x.restore(), STATE);
        x.image();
        is("restore()", x.restore(), 0);
    }

    private static void isAsAtTheImage(EachEye x) {
        int[] want = {2, 2, 1, 1, 1, 2, 2, 1, 1};
        for (int what = 0; what <= 8; what++) {
            is("count(" + what + ")", x.count(what), want[what]);
        }
        is("hue(0)", x.hue(0), 1);
        is("hue(1)", x.hue(1), 2);
        is("hue(2)", x.hue(2), 0);
        is("about(0, 1)", x.about(0, 1), 1);
        is("about(0, 2)", x.about(0, 2), 2);
        is("about(1, 2)", x.about(1, 2), 4);
        is("about(0, 25)", x.about(0, 25), 6);
        is("about(1, 20)", x.about(1, 20), NONE);
        is("about(2, 0)", x.about(2, 0), UNKNOWN);
        is("inkOf(0)", x.inkOf(0), 2);
        is("inkOf(1)", x.inkOf(1), UNKNOWN);
        EachEye y = new EachEye();
        y.card(1, 1);
        y.card(2, 0);
        EachEye z = withSign("100000");
        z.card(1, 1);
        z.card(2, 0);
        z.image();
        z.forget();
        z.card(7, 7);
        z.restore();
        is("who(0)", z.who(0), y.who(0));
        is("who(1)", z.who(1), y.who(1));
    }

    private static void count() {
        EachEye x = withSign("100200");
        x.person(PERSON, 1, 2);
        x.person(PERSON, 1, 2);
        x.person(PERSON, 1, 2);
        x.ink(1);
        x.ink(2);
        for (int i = 0; i < 4; i++) {
            x.layer(0, 0);
        }
        tell(x, 2, "000000");
        for (int i = 0; i < 5; i++) {
            x.card(0, 0);
        }
        page(x, "777777");
        for (int i = 0; i < 3; i++) {
            x.who(i);
            x.next();
        }
        int[] want = {2, 3, 2, 4, 1, 5, 6, 1, 5};
        for (int what = 0; what <= 8; what++) {
            is("count(" + what + ")", x.count(what), want[what]);
        }
        is("count(9)", x.count(9), OUTSIDE);
        for (int far : FAR) {
            is("count(" + far + ")", x.count(far), OUTSIDE);
        }
        x.sign();
        x.sign();
        is("count(7)", x.count(7), 2);
        is("count(3)", x.count(3), 0);
    }

    private static long folded(long... numbers) {
        long h = 853;
        for (long number : numbers) {
            h = 31 * h + number;
        }
        return h;
    }

    private static void digest() {
        EachEye x = new EachEye();
        is("digest() of a new object", x.digest(), folded(0, 0, 0, 0, 0, 0, 0, 0, 0));
        page(x, "a~");
        x.card(1, 2);
        is("digest() without a sign", x.digest(), folded('a', '~', 0, 0, 0, 0, 0, 1, 2, 0, 0));
        x.blank();
        page(x, "100007").sign();
        is("digest() with a sign", x.digest(), folded(1, 0, 0, 0, 0, 7, 0, 0, 2, 0, 0, 0, 0, 0, 0, 1, 0));
        x.person(PERSON, 1, 2);
        x.person(OLD, 4, 5);
        x.ink(6);
        x.ink(1);
        tell(x, 1, "000044");
        page(x, "5");
        x.who(0);
        is("digest() with all", x.digest(), folded(1, 0, 0, 0, 0, 7, 1, 1,
                PERSON, 1, 2, 4, 1, 0, 0, 0, 0, 3, NONE, NONE, NONE, NONE, NONE, NONE, NONE, 8, 0, 1,
                OLD, 4, 5, 2, 0, 0, 0, 0, 0, 4, 0, 0, 0, 0, 4, 4, 0, 1, NONE, 8,
                6, 1, '5', 2, 2, 2, 0, 1, 0, 1, 1, 1));
        long before = x.digest();
        is("digest() again", x.digest(), before);
        is("few(0)", x.few(0), 1);
        x = withSign("000000");
        x.person(PERSON, 7, 7);
        x.ink(1);
        x.ink(2);
        tell(x, 0, "333333");
        is("digest() with two numbers of few()", x.digest(), folded(0, 0, 0, 0, 0, 0, 2, 3,
                PERSON, 7, 7, 8, 0, 0, 0, 0, 0, 0, 3, 3, 3, 3, 3, 3, NONE, 8,
                1, 2, 0, 1, 2, 0, 1, 0, 0, 1, 0));
    }
}
