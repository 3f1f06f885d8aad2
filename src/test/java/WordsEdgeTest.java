/** The edges of WORDS, DIFFER, ALIKE and FEW: promises 15 to 19. */
public final class WordsEdgeTest extends Edges {
    private static final String[] NO_WORDS = {"", "7", "12345", "1234567", "0123456701", "812345", "12345/", "12 456"};

    public static void main(String[] args) throws ReflectiveOperationException {
        run(WordsEdgeTest.class);
    }

    /** A sign, people without a kind of their own by their left eyes (the right ones see nothing). */
    private static EachEye seenBy(String sign, int... eyes) {
        EachEye x = withSign(sign);
        for (int eye : eyes) {
            x.person(PERSON, eye, 0);
        }
        return x;
    }

    private static EachEye inked(EachEye x, int... hues) {
        for (int hue : hues) {
            x.ink(hue);
        }
        return x;
    }

    private static void isFew(String when, EachEye x, int few, int which) {
        is("few(0) " + when, x.few(0), few);
        is("few(1) " + when, x.few(1), which);
    }

    /** With a page that is no word. */
    private static EachEye richWith(String text) {
        EachEye x = rich();
        x.blank();
        return page(x, text);
    }

    // ---- promise 15

    @Says(promise = 0, value = "A WORD is told for one (six HUES, as a text; anew instead of that before)")
    private static void anew() {
        EachEye x = tell(seenBy("000000", 7), 0, "777777");
        page(x, "000000");
        is("word(0) anew", x.word(0), 1);
        is("about(0, 20)", x.about(0, 20), 0);
        is("about(0, 25)", x.about(0, 25), 0);
        isFew("by the word anew", x, 0, 0);
    }

    @Says(promise = 15, value = "THE PAGE is told as the WORD for a PERSON: of how many a WORD is told; THE PAGE is empty then.")
    private static void oneToFour() {
        EachEye x = seenBy("000000", 7, 7, 7, 7);
        int[] order = {3, 0, 2, 1};
        for (int told = 1; told <= 4; told++) {
            page(x, "70000" + told);
            is("word(" + order[told - 1] + ")", x.word(order[told - 1]), told);
            is("count(6)", x.count(6), 0);
            is("word() at once again", x.word(order[told - 1]), STATE);
            is("its last hue", x.about(order[told - 1], 25), told);
        }
        page(x, "777777");
        is("word(3) anew", x.word(3), 4);
        is("about(0, 25) as before", x.about(0, 25), 2);
        is("hue(0) as before", x.hue(0), 0);
    }

    @Says(promise = 15, value = "UNKNOWN; STATE: it is none.")
    private static void noSuchOneOrNoWord() {
        for (String text : NO_WORDS) {
            refuses("word(0) of " + text, STATE, () -> richWith(text), x -> x.word(0));
            refuses("word(1) of " + text + ", told before", STATE, () -> richWith(text), x -> x.word(1));
            refuses("word(3) of " + text, UNKNOWN, () -> richWith(text), x -> x.word(3));
        }
        refusesFar("word() of a word", UNKNOWN, () -> richWith("123456"), EachEye::word, 3, 4);
        refusesFar("word() of none", UNKNOWN, () -> richWith("12345"), EachEye::word, 3, 4);
        refusesFar("word() without a sign", UNKNOWN, () -> withPage("123456"), EachEye::word, 0);
        refuses("word(3) of ten letters", STATE, Edges::full, x -> x.word(3));
        refusesFar("word() of ten letters", UNKNOWN, Edges::full, EachEye::word, 4);
    }

    // ---- promise 16

    @Says(promise = 16, value = "No WORD is told for a PERSON any more: whether one was (1, 0).")
    private static void wasAndWasNot() {
        EachEye x = seenBy("000000", 7, 7);
        is("unword(0), never told", x.unword(0), 0);
        tell(tell(x, 0, "000000"), 1, "000000");
        is("unword(0) of 000000", x.unword(0), 1);
        is("unword(0) again", x.unword(0), 0);
        is("count(4)", x.count(4), 1);
        is("about(1, 20)", x.about(1, 20), 0);
        is("unword(1)", x.unword(1), 1);
        is("count(4)", x.count(4), 0);
        page(x, "111111");
        is("word(0) again", x.word(0), 1);
    }

    @Says(promise = 16, value = "UNKNOWN.")
    private static void noSuchOneToUnword() {
        refusesFar("unword()", UNKNOWN, Edges::rich, EachEye::unword, 3, 4);
        refusesFar("unword() of four", UNKNOWN, Edges::full, EachEye::unword, 4);
        refusesFar("unword() without a sign", UNKNOWN, Edges::unsigned, EachEye::unword, 0);
    }

    // ---- promise 17

    @Says(promise = 0, value = "the first CELL of which two SEE unlike.")
    private static void firstToLastCell() {
        for (int cell = 0; cell < 6; cell++) {
            String sign = "111111".substring(0, cell) + "222222".substring(cell);
            EachEye x = seenBy(sign, RED, 3);
            is("differ(0, 1) of " + sign, x.differ(0, 1), cell);
            is("differ(1, 0) of " + sign, x.differ(1, 0), cell);
        }
        EachEye x = seenBy("000000", 7, 0);
        is("differ(0, 1) of no hue", x.differ(0, 1), NONE);
        inked(x, BLUE).layer(0, 32);
        is("differ(0, 1) behind a layer on the last cell", x.differ(0, 1), 5);
        x.layer(0, 1);
        is("differ(0, 1) behind a layer on the first cell", x.differ(0, 1), 0);
    }

    @Says(promise = 17, value = "DIFFER; NONE: nowhere. UNKNOWN: a, b (they may be the same).")
    private static void nowhere() {
        is("differ(0, 1) of like parts", seenBy("111222", 3, 7).differ(0, 1), NONE);
        for (int number = 0; number < 4; number++) {
            is("differ() of the same", full().differ(number, number), NONE);
        }
    }

    @Says(promise = 17, value = "UNKNOWN: a, b (they may be the same).")
    private static void noSuchTwoToDiffer() {
        refusesFar("differ(0, ..)", UNKNOWN, Edges::rich, (x, b) -> x.differ(0, b), 3, 4);
        refusesFar("differ(.., 0)", UNKNOWN, Edges::rich, (x, a) -> x.differ(a, 0), 3, 4);
        refusesFar("differ() of the same", UNKNOWN, Edges::rich, (x, far) -> x.differ(far, far), 3, 4);
        refusesFar("differ(3, ..) of four", UNKNOWN, Edges::full, (x, b) -> x.differ(3, b), 4);
        refusesFar("differ(.., 3) of four", UNKNOWN, Edges::full, (x, a) -> x.differ(a, 3), 4);
        refusesFar("differ() without a sign", UNKNOWN, Edges::unsigned, (x, far) -> x.differ(far, far), 0);
    }

    // ---- promise 18

    @Says(promise = 0, value = "how many of the eight HUES two SEE alike.")
    private static void oneToEight() {
        EachEye x = seenBy("777777", 7, 0, 6, 1);
        is("alike(0, 1): black alone", x.alike(0, 1), 1);
        is("alike(0, 2)", x.alike(0, 2), 4);
        is("alike(0, 3)", x.alike(0, 3), 2);
        is("alike(2, 3): black alone", x.alike(2, 3), 1);
        is("alike(1, 3)", x.alike(1, 3), 4);
        x.eye(1, 1, 7);
        is("alike(0, 1) behind eye()", x.alike(0, 1), 8);
        is("the sign is nothing to it", withSign("000000").alike(0, 0), UNKNOWN);
    }

    @Says(promise = 18, value = "ALIKE. UNKNOWN: a, b.")
    private static void noSuchTwoToBeAlike() {
        refusesFar("alike(0, ..)", UNKNOWN, Edges::rich, (x, b) -> x.alike(0, b), 3, 4);
        refusesFar("alike(.., 0)", UNKNOWN, Edges::rich, (x, a) -> x.alike(a, 0), 3, 4);
        refusesFar("alike() of the same", UNKNOWN, Edges::rich, (x, far) -> x.alike(far, far), 3, 4);
        refusesFar("alike(3, ..) of four", UNKNOWN, Edges::full, (x, b) -> x.alike(3, b), 4);
        refusesFar("alike(.., 3) of four", UNKNOWN, Edges::full, (x, a) -> x.alike(a, 3), 4);
        refusesFar("alike() without a sign", UNKNOWN, Edges::unsigned, (x, far) -> x.alike(far, far), 0);
        for (int number = 0; number < 4; number++) {
            is("alike() of the same", full().alike(number, number), 8);
        }
    }

    // ---- promise 19

    @Says(promise = 0, value = "(0, if for none)")
    private static void noWord() {
        isFew("of a sign alone", withSign("777777"), 0, 0);
        isFew("without people", inked(withSign("123456"), 1, 2, 3, 4, 5), 0, 0);
        isFew("without words", inked(seenBy("123456", 7, 7, 7, 7), 1, 2, 3, 4, 5), 0, 0);
        EachEye x = tell(inked(seenBy("000000", 7), 1), 0, "111111");
        isFew("with a word", x, 1, 1);
        x.unword(0);
        isFew("behind unword()", x, 0, 0);
    }

    @Says(promise = 0, value = "each in one LAYER, on whichever CELLS")
    private static void onWhicheverCells() {
        for (int cell = 0; cell < 6; cell++) {
            String word = "000000".substring(cell + 1) + "4" + "000000".substring(0, cell);
            isFew("for " + word, tell(inked(seenBy("000000", 7), 3, 4), 0, word), 1, 2);
        }
        isFew("for unlike cells", tell(inked(seenBy("000000", 7), 1, 2), 0, "012301"), 2, 3);
        isFew("for all cells", tell(inked(seenBy("000000", 7), 1, 2), 0, "222222"), 1, 2);
    }

    @Says(promise = 0, value = "the SIGN as it is could get so that all for whom a WORD is told READ theirs")
    private static void theSignAsItIs() {
        EachEye x = tell(inked(seenBy("000000", 7, 3), 1, 2, 4), 0, "700000");
        isFew("from nothing", x, 3, 7);
        x.layer(1, 1);
        isFew("behind a layer", x, 2, 5);
        x.layer(0, 1);
        x.layer(2, 1);
        isFew("behind all layers", x, 0, 0);
        tell(x, 1, "300000");
        isFew("when another one reads his, too", x, 0, 0);
        tell(x, 1, "100000");
        isFew("when another one can't", x, NONE, NONE);
        x.unword(1);
        x.layer(2, 2);
        isFew("behind a layer too many", x, NONE, NONE);
    }

    @Says(promise = 0, value = "which INKS: of like ones the least bits; none.")
    private static void theLeastBits() {
        isFew("of five like inks", tell(inked(seenBy("000000", 7), 5, 5, 5, 5, 5), 0, "500000"), 1, 1);
        isFew("of the last two", tell(inked(seenBy("000000", 7), 1, 2, 4, 5, 5), 0, "500000"), 1, 8);
        isFew("of the last one", tell(inked(seenBy("000000", 7), 1, 2, 4, 3, 5), 0, "500000"), 1, 16);
        EachEye x = inked(seenBy("000000", BLUE, 3), 2, 6, 1, 5);
        isFew("of 0110, 1001 and 1010", tell(tell(x, 0, "004000"), 1, "003000"), 2, 6);
        isFew("fewer ahead of less", tell(inked(seenBy("000000", 7), 1, 2, 4, 3), 0, "333000"), 1, 8);
    }

    @Says(promise = 19, value = "FEW: what = 0 how few, 1 which, as bits; NONE.")
    private static void noneToFourInks() {
        isFew("without an ink", seenBy("000000", 7), 0, 0);
        isFew("what needs one, of none", tell(seenBy("000000", 7), 0, "000001"), NONE, NONE);
        isFew("with a part too many", tell(inked(seenBy("000001", 7), 1, 2, 3, 4, 5), 0, "000000"), NONE, NONE);
        isFew("with an ink of too much", tell(inked(seenBy("000000", 7), 7), 0, "000001"), NONE, NONE);
        isFew("what nobody's eye sees", tell(inked(seenBy("000000", 6), 1), 0, "100000"), NONE, NONE);
        isFew("what no eye sees of too much", tell(inked(seenBy("000000", RED), 7), 0, "100000"), 1, 1);
        // of 1, 3, 5 and 6 each is needed, for none is made of the others
        isFew("of four", tell(inked(seenBy("000000", 7), 7, 1, 3, 5, 6), 0, "135600"), 4, 30);
        isFew("of four, and all together", tell(inked(seenBy("000000", 7), 7, 1, 3, 5, 6), 0, "135670"), 4, 30);
    }

    @Says(promise = 0, value = "all for whom a WORD is told READ theirs")
    private static void ofKinds() {
        EachEye x = inked(withSign("000000"), RED, GREEN, BLUE);
        x.person(WINKER, 1, 6);
        x.person(SPY, 1, 6);
        x.person(ARGUER, 1, 3);
        x.person(OLD, 3, 6);
        tell(x, 0, "100000");
        tell(x, 1, "600000");
        isFew("red for the winker, green and blue for the spy", x, 3, 7);
        tell(x, 2, "200000");
        tell(x, 3, "200000");
        isFew("with all four", x, 3, 7);
        tell(x, 2, "000000");
        isFew("with one of four who can't", x, NONE, NONE);
        x.eye(2, 1, 1);
        isFew("behind eye()", x, 3, 7);
        tell(x, 0, "600000");
        isFew("when the winker's left eye must see nothing", x, 2, 6);
    }

    @Says(promise = 19, value = "OUTSIDE; STATE: no SIGN.")
    private static void noSuchFew() {
        refusesFar("few()", OUTSIDE, Edges::rich, EachEye::few, 2, 3);
        refuses("few(0) without a sign", STATE, Edges::unsigned, x -> x.few(0));
        refuses("few(1) without a sign", STATE, Edges::unsigned, x -> x.few(1));
        refusesFar("few() without a sign", OUTSIDE, Edges::unsigned, EachEye::few, 2, 3);
    }
}
