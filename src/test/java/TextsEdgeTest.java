/** The edges of THE PAGE, of THE SIGN and of LAYERS: promises 1 to 7. */
public final class TextsEdgeTest extends Edges {
    private static final String[] NO_TEXTS = {"", "1", "12345", "1234567", "1234567012", "812345", "12345/", "1234 5",
        "12345\u0001", "~23456", "-12345", "12345\n"};

    public static void main(String[] args) throws ReflectiveOperationException {
        run(TextsEdgeTest.class);
    }

    // ---- promise 1

    @Says(promise = 1, value = "No SIGN.")
    private static void nothingIsThere() {
        for (int what = 0; what <= 8; what++) {
            is("count(" + what + ")", new EachEye().count(what), 0);
        }
        for (int cell = 0; cell < 6; cell++) {
            is("hue(" + cell + ")", new EachEye().hue(cell), UNKNOWN);
        }
        is("blank()", new EachEye().blank(), 0);
        is("forget()", new EachEye().forget(), 0);
        is("fault()", new EachEye().fault(), 0);
        is("about(0, 0)", new EachEye().about(0, 0), UNKNOWN);
        is("inkOf(0)", new EachEye().inkOf(0), UNKNOWN);
        is("differ(0, 0)", new EachEye().differ(0, 0), UNKNOWN);
    }

    @Says(promise = 0, value = "At first there is none.")
    private static void withoutASign() {
        is("sign()", new EachEye().sign(), STATE);
        is("person(0, 0, 0)", new EachEye().person(0, 0, 0), STATE);
        is("ink(1)", new EachEye().ink(1), STATE);
        is("few(0)", new EachEye().few(0), STATE);
        is("image()", new EachEye().image(), STATE);
        is("restore()", new EachEye().restore(), STATE);
        is("count(0) with a sign of no hue", withSign("000000").count(0), 0);
        is("hue(0) with a sign of no hue", withSign("000000").hue(0), 0);
    }

    // ---- promise 2

    @Says(promise = 2, value = "A letter comes behind THE PAGE, by its code: how many THE PAGE has.")
    private static void fromTheFirstToTheTenth() {
        EachEye x = new EachEye();
        for (int i = 1; i <= 10; i++) {
            is("letter(), the " + i + ".", x.letter('0' + i % 8), i);
            is("count(6)", x.count(6), i);
        }
        EachEye y = withPage("70");
        is("fault() of 70", y.fault(), 2);
        is("letter(56) behind 70", y.letter('8'), 3);
        is("fault() of 708", y.fault(), 2);
    }

    @Says(promise = 2, value = "OUTSIDE: code (1 to 126)")
    private static void codes() {
        for (int code = 1; code <= 126; code++) {
            is("letter(" + code + ")", new EachEye().letter(code), 1);
        }
        refusesFar("letter()", OUTSIDE, EachEye::new, EachEye::letter, 0, 127, 128, 255, 256 + 49);
        refuses("letter(0)", OUTSIDE, Edges::rich, x -> x.letter(0));
        refuses("letter(127)", OUTSIDE, Edges::rich, x -> x.letter(127));
    }

    @Says(promise = 2, value = "FULL: above 10.")
    private static void theEleventh() {
        is("letter(55), the tenth", withPage("012345670").letter('7'), 10);
        refuses("letter(55), the eleventh", FULL, () -> withPage("0123456701"), x -> x.letter('7'));
        refuses("letter(1)", FULL, Edges::full, x -> x.letter(1));
        refuses("letter(126)", FULL, Edges::full, x -> x.letter(126));
        EachEye x = withPage("0123456701");
        x.blank();
        for (int i = 1; i <= 10; i++) {
            is("letter(), the " + i + ". behind blank()", x.letter('1'), i);
        }
        is("letter(), the eleventh behind blank()", x.letter('1'), FULL);
    }

    @Says(promise = 2, value = "OUTSIDE: code (1 to 126); FULL: above 10.")
    private static void outsideAheadOfFull() {
        refusesFar("letter() on a full page", OUTSIDE, Edges::full, EachEye::letter, 0, 127);
    }

    // ---- promise 3

    @Says(promise = 3, value = "THE PAGE is empty: how many letters it had.")
    private static void noneToTen() {
        String text = "0123456789";
        for (int had = 0; had <= 10; had++) {
            EachEye x = withPage(text.substring(0, had));
            is("blank() of " + had, x.blank(), had);
            is("blank() again", x.blank(), 0);
            is("fault()", x.fault(), 0);
            is("letter(49)", x.letter('1'), 1);
        }
        EachEye x = full();
        long before = x.count(5);
        is("blank() of all", x.blank(), 10);
        is("count(5)", x.count(5), before);
        is("count(1)", x.count(1), 4);
    }

    // ---- promise 4

    @Says(promise = 4, value = "The place (from 0) of the first letter of THE PAGE that no SIGN (nor WORD: six HUES, too) has there")
    private static void besideTheDigits() {
        for (int place = 0; place < 6; place++) {
            String ahead = "070707".substring(0, place);
            for (char wrong : new char[] {1, ' ', '/', '8', '9', 'a', 126}) {
                is("fault() of " + ahead + wrong, withPage(ahead + wrong).fault(), place);
            }
            is("fault() of " + ahead + '0', withPage(ahead + '0').fault(), place + 1);
            is("fault() of " + ahead + '7', withPage(ahead + '7').fault(), place + 1);
        }
    }

    @Says(promise = 4, value = "behind those ahead of it")
    private static void theFirstOfSeveral() {
        is("fault() of x8x8x8", withPage("x8x8x8").fault(), 0);
        is("fault() of 12x4x6", withPage("12x4x6").fault(), 2);
        is("fault() of 12345x7", withPage("12345x7").fault(), 5);
        is("fault() of 123456xx", withPage("123456xx").fault(), 6);
    }

    @Says(promise = 4, value = "that no SIGN (nor WORD: six HUES, too) has there")
    private static void aSeventhLetter() {
        String digits = "0123456701";
        for (int size = 7; size <= 10; size++) {
            is("fault() of " + size + " digits", withPage(digits.substring(0, size)).fault(), 6);
        }
    }

    @Says(promise = 4, value = "how many letters it has, if there is none.")
    private static void noneIsWrong() {
        for (int size = 0; size <= 6; size++) {
            is("fault() of " + size + " digits", withPage("765432".substring(0, size)).fault(), size);
        }
        EachEye x = withPage("765432");
        x.fault();
        is("the letters stay", x.count(6), 6);
        x.sign();
        is("fault() behind sign()", x.fault(), 0);
    }

    // ---- promise 5

    @Says(promise = 0, value = "A SIGN is a text: six digits 0 to 7, the HUES of CELLS 0 to 5.")
    private static void sixDigits() {
        for (int cell = 0; cell < 6; cell++) {
            for (char digit = '/'; digit <= '8'; digit++) {
                EachEye x = withPage("111111".substring(0, cell) + digit + "111111".substring(cell + 1));
                boolean isDue = digit >= '0' && digit <= '7';
                is("sign() with " + digit + " in cell " + cell, x.sign(), !isDue ? STATE : digit == '0' ? 5 : 6);
                is("hue(" + cell + ")", x.hue(cell), isDue ? digit - '0' : UNKNOWN);
                is("hue(" + (5 - cell) / 3 * 5 + ")", x.hue((5 - cell) / 3 * 5), isDue ? 1 : UNKNOWN);
            }
        }
    }

    @Says(promise = 5, value = "THE PAGE is read as THE SIGN (another one is gone, with PEOPLE, INKS, CARDS, LAYERS)")
    private static void allIsGone() {
        EachEye x = full();
        int asked = x.count(8);
        x.blank();
        is("sign()", page(x, "000000").sign(), 0);
        for (int what = 0; what <= 6; what++) {
            is("count(" + what + ")", x.count(what), 0);
        }
        is("count(7): a sign more", x.count(7), 2);
        is("count(8): as before", x.count(8), asked);
        for (int number = 0; number < 6; number++) {
            is("about(" + number + ", 0)", x.about(number, 0), UNKNOWN);
            is("inkOf(" + number + ")", x.inkOf(number), UNKNOWN);
            is("layer(" + number + ", 1)", x.layer(number, 1), UNKNOWN);
            is("word(" + number + ")", x.word(number), UNKNOWN);
            is("hue(" + number + ")", x.hue(number), 0);
        }
        is("who(0): no card", x.who(0), 320);
        is("few(0)", x.few(0), 0);
        is("few(1)", x.few(1), 0);
    }

    @Says(promise = 5, value = "(another one is gone, with PEOPLE, INKS, CARDS, LAYERS)")
    private static void whatWasFullIsEmpty() {
        EachEye x = full();
        x.blank();
        page(x, "000000").sign();
        for (int number = 0; number < 4; number++) {
            is("person()", x.person(PERSON, 7, 7), number);
            is("about(" + number + ", 20)", x.about(number, 20), NONE);
        }
        is("person(), the fifth", x.person(PERSON, 7, 7), FULL);
        for (int number = 0; number < 5; number++) {
            is("ink()", x.ink(7 - number), number);
            is("inkOf(" + number + ")", x.inkOf(number), 7 - number);
        }
        is("ink(), the sixth", x.ink(7), FULL);
        for (int count = 1; count <= 8; count++) {
            is("card()", x.card(0, 0), count);
        }
        is("card(), the ninth", x.card(0, 0), FULL);
    }

    @Says(promise = 5, value = "of how many CELLS the HUE is not 0")
    private static void noneToSix() {
        String text = "123456";
        for (int coloured = 0; coloured <= 6; coloured++) {
            String sign = "000000".substring(coloured) + text.substring(0, coloured);
            EachEye x = withPage(sign);
            is("sign() of " + sign, x.sign(), coloured);
            is("count(0)", x.count(0), coloured);
        }
        is("sign() of 700000", withPage("700000").sign(), 1);
        is("sign() of 000001", withPage("000001").sign(), 1);
    }

    @Says(promise = 5, value = "THE PAGE is empty then. STATE: it is none.")
    private static void thePageThen() {
        EachEye x = withPage("123456");
        is("sign()", x.sign(), 6);
        is("count(6)", x.count(6), 0);
        is("fault()", x.fault(), 0);
        is("sign() at once again", x.sign(), STATE);
        for (int i = 1; i <= 10; i++) {
            is("letter(49)", x.letter('1'), i);
        }
    }

    @Says(promise = 5, value = "STATE: it is none.")
    private static void noSign() {
        for (String text : NO_TEXTS) {
            refuses("sign() of " + text, STATE, () -> withPage(text), EachEye::sign);
            refuses("sign() of " + text + ", on another one", STATE, () -> {
                EachEye x = rich();
                x.blank();
                return page(x, text);
            }, EachEye::sign);
        }
        refuses("sign() of ten digits", STATE, () -> withPage("0123456701"), EachEye::sign);
    }

    // ---- promise 6

    @Says(promise = 6, value = "The HUE of a CELL. UNKNOWN (also without a SIGN).")
    private static void cells() {
        EachEye x = withSign("701234");
        int[] want = {7, 0, 1, 2, 3, 4};
        for (int cell = 0; cell < 6; cell++) {
            is("hue(" + cell + ")", x.hue(cell), want[cell]);
        }
        refusesFar("hue()", UNKNOWN, Edges::rich, EachEye::hue, 6, 7, 10, 32, 64);
        refusesFar("hue() without a sign", UNKNOWN, Edges::unsigned, EachEye::hue, 0, 1, 2, 3, 4, 5, 6);
    }

    // ---- promise 7

    @Says(promise = 0, value = "each of these gets its PARTS, if it has not got them.")
    private static void partsThatAreThere() {
        for (int hue = 0; hue < 8; hue++) {
            for (int ink = 1; ink < 8; ink++) {
                EachEye x = withSign("00000" + hue);
                x.ink(ink);
                is("layer() of " + ink + " on " + hue, x.layer(0, 32), (hue & ink) == ink ? 0 : 1);
                is("hue(5)", x.hue(5), hue | ink);
                is("layer() again", x.layer(0, 32), 0);
                is("hue(5)", x.hue(5), hue | ink);
                is("hue(4)", x.hue(4), 0);
            }
        }
    }

    @Says(promise = 7, value = "A LAYER: how many CELLS get another HUE.")
    private static void noneToSixCells() {
        for (int set = 0; set < 64; set++) {
            EachEye x = withSign("000000");
            x.ink(BLUE);
            is("layer(0, " + set + ")", x.layer(0, set), Integer.bitCount(set));
            for (int cell = 0; cell < 6; cell++) {
                is("hue(" + cell + ")", x.hue(cell), (set >> cell & 1) * BLUE);
            }
            is("count(3)", x.count(3), 1);
            is("layer(0, 63)", x.layer(0, 63), 6 - Integer.bitCount(set));
            is("layer(0, 63) again", x.layer(0, 63), 0);
            is("count(3)", x.count(3), 3);
        }
    }

    @Says(promise = 7, value = "UNKNOWN: ink")
    private static void noSuchInk() {
        refusesFar("layer() with an ink", UNKNOWN, Edges::rich, (x, ink) -> x.layer(ink, 63), 3, 4, 5, 6);
        refusesFar("layer() with an ink, of five", UNKNOWN, Edges::full, (x, ink) -> x.layer(ink, 63), 5, 6);
        refusesFar("layer() without a sign", UNKNOWN, Edges::unsigned, (x, ink) -> x.layer(ink, 63), 0);
        is("layer(4, 63), the last", full().layer(4, 63), 2);
        EachEye x = rich();
        x.restore();
        is("layer(2, 63) of an ink that is gone", x.layer(2, 63), UNKNOWN);
    }

    @Says(promise = 7, value = "OUTSIDE: set (0 to 63)")
    private static void noSuchSet() {
        refusesFar("layer() with a set", OUTSIDE, Edges::rich, (x, set) -> x.layer(0, set), 64, 65, 127, 128);
        is("layer(1, 63)", rich().layer(1, 63), 4);
        is("layer(1, 0)", rich().layer(1, 0), 0);
    }

    @Says(promise = 7, value = "UNKNOWN: ink; OUTSIDE: set (0 to 63).")
    private static void unknownAheadOfOutside() {
        refusesFar("layer() with both", UNKNOWN, Edges::rich, (x, far) -> x.layer(far, 64), 3);
        refusesFar("layer() with both", UNKNOWN, Edges::rich, (x, far) -> x.layer(3, far), 64);
    }
}
