import java.math.BigInteger;
import java.util.ArrayList;
import java.util.List;
import java.util.function.Supplier;

/** The edges of the IMAGE, of count() and digest(), and of all calls together: promises 25 to 28, and the Terms. */
public final class WholeEdgeTest extends Edges {
    private static final List<Supplier<EachEye>> STATES = List.of(EachEye::new, Edges::unsigned,
            () -> withSign("000000"), () -> withSign("777777"), Edges::rich, Edges::full, Edges::asked);

    public static void main(String[] args) throws ReflectiveOperationException {
        run(WholeEdgeTest.class);
    }

    // ---- promise 25

    @Says(promise = 25, value = "An IMAGE is kept (one; the latest): how many PEOPLE.")
    private static void theLatest() {
        EachEye x = withSign("100000");
        is("image() of nobody", x.image(), 0);
        for (int people = 1; people <= 4; people++) {
            x.person(PERSON, people, 0);
            is("image()", x.image(), people);
            is("image() at once again", x.image(), people);
        }
        is("restore()", x.restore(), 4);
        x.eye(3, 0, 7);
        is("restore()", x.restore(), 4);
        is("about(3, 1)", x.about(3, 1), 4);
        is("image() of four", full().image(), 4);
    }

    @Says(promise = 25, value = "STATE: no SIGN.")
    private static void noImageWithoutASign() {
        refuses("image() of a new object", STATE, EachEye::new, EachEye::image);
        refuses("image() without a sign", STATE, Edges::unsigned, EachEye::image);
        is("image() of a sign without hues", withSign("000000").image(), 0);
    }

    // ---- promise 26

    @Says(promise = 0, value = "how many PEOPLE, INKS there are (those that come since are gone by restore())")
    private static void numbersComeAgain() {
        EachEye x = withSign("000000");
        x.person(PERSON, 7, 7);
        x.ink(1);
        x.image();
        for (int time = 1; time <= 3; time++) {
            for (int number = 1; number < 4; number++) {
                is("about() of one who is gone", x.about(number, 0), UNKNOWN);
                is("person()", x.person(time, time, number), number);
                is("about(.., 20) of one who is new", x.about(number, 20), NONE);
                is("about(.., 0)", x.about(number, 0), time);
                tell(x, number, "777777");
            }
            is("person(), the fifth", x.person(PERSON, 7, 7), FULL);
            for (int number = 1; number < 5; number++) {
                is("inkOf() of one that is gone", x.inkOf(number), UNKNOWN);
                is("ink()", x.ink(time + number - 1), number);
                is("inkOf(" + number + ")", x.inkOf(number), time + number - 1);
            }
            is("ink(), the sixth", x.ink(7), FULL);
            is("restore()", x.restore(), 1);
            is("count(1)", x.count(1), 1);
            is("count(2)", x.count(2), 1);
            is("count(4)", x.count(4), 0);
        }
        is("layer(1, 63) of an ink that is gone", x.layer(1, 63), UNKNOWN);
        is("differ(0, 1) with one who is gone", x.differ(0, 1), UNKNOWN);
    }

    @Says(promise = 0, value = "An IMAGE keeps HUES of the SIGN")
    private static void huesOfTheSign() {
        EachEye x = withSign("012345");
        x.image();
        x.ink(7);
        is("layer(0, 63) of an ink since", x.layer(0, 63), 6);
        x.restore();
        for (int cell = 0; cell < 6; cell++) {
            is("hue(" + cell + ")", x.hue(cell), cell);
        }
        is("count(0)", x.count(0), 5);
    }

    @Says(promise = 0, value = "EYES, WORDS, CARDS, LAYERS.")
    private static void whatIsKept() {
        EachEye x = rich();
        int questions = x.count(8);
        is("restore()", x.restore(), 2);
        int[] counts = {6, 2, 2, 1, 1, 1, 3, 1, questions};
        for (int what = 0; what <= 8; what++) {
            is("count(" + what + ")", x.count(what), counts[what]);
        }
        int[] hues = {3, 5, 2, 3, 7, 2};
        int[] word = {2, 3, 0, 2, 2, 2};
        for (int cell = 0; cell < 6; cell++) {
            is("hue(" + cell + ")", x.hue(cell), hues[cell]);
            is("about(0, 2" + cell + ")", x.about(0, 20 + cell), word[cell]);
            is("about(1, 2" + cell + ")", x.about(1, 20 + cell), NONE);
        }
        is("about(1, 1)", x.about(1, 1), 7);
        is("about(1, 2)", x.about(1, 2), 5);
        is("who(0) of the card 7, 3", x.who(0), 37);
        is("fault(): the page is as it was", x.fault(), 2);
    }

    @Says(promise = 0, value = "EYES, WORDS, CARDS, LAYERS.")
    private static void whatIsPutInThePlaceOfIt() {
        EachEye x = withSign("100000");
        for (int number = 0; number < 4; number++) {
            x.person(number, number, 7 - number);
            tell(x, number, "00000" + number);
        }
        cards(x, 7, 1, 6, 6);
        x.image();
        for (int number = 0; number < 4; number++) {
            x.eye(number, 0, 5);
            x.eye(number, 1, 6);
            tell(x, number, "777777");
        }
        x.forget();
        cards(x, 3, 0, 4, 4);
        is("who(0) of the cards since", x.who(0) == 2 ? 1 : 0, 0);
        x.restore();
        for (int number = 0; number < 4; number++) {
            is("about(" + number + ", 0)", x.about(number, 0), number);
            is("about(" + number + ", 1)", x.about(number, 1), number);
            is("about(" + number + ", 2)", x.about(number, 2), 7 - number);
            is("about(" + number + ", 20)", x.about(number, 20), 0);
            is("about(" + number + ", 25)", x.about(number, 25), number);
        }
        is("count(5)", x.count(5), 2);
        is("who(0) of 7, 1 and 6, 6", x.who(0), 2);
        is("who(1) of 7, 1 and 6, 6", x.who(1), 64 * WINKER + 8 * RED + GREEN + BLUE);
        is("next() of them", x.next(), 0);
    }

    @Says(promise = 26, value = "It goes on from the IMAGE: how many PEOPLE.")
    private static void emptyAndFull() {
        EachEye x = withSign("000000");
        x.image();
        fill(x);
        is("restore() of nobody", x.restore(), 0);
        for (int what = 0; what <= 5; what++) {
            is("count(" + what + ")", x.count(what), 0);
        }
        is("who(0)", x.who(0), 320);
        fill(x);
        is("image() of all", x.image(), 4);
        x.forget();
        for (int number = 0; number < 4; number++) {
            x.unword(number);
            x.eye(number, 0, 0);
        }
        is("restore() of all", x.restore(), 4);
        is("count(4)", x.count(4), 4);
        is("count(5)", x.count(5), 8);
        is("card(), the ninth", x.card(0, 0), FULL);
        is("ink(), the sixth", x.ink(1), FULL);
        is("person(), the fifth", x.person(PERSON, 0, 0), FULL);
        is("about(3, 1)", x.about(3, 1), 4);
        is("who(0) of the last card", x.who(0), 0);
        is("restore() again", x.restore(), 4);
    }

    private static void fill(EachEye x) {
        for (int number = 0; number < 4; number++) {
            x.person(number, number + 1, 7);
            tell(x, number, "00000" + number);
        }
        for (int hue = 1; hue <= 5; hue++) {
            x.ink(hue);
            x.layer(hue - 1, hue);
        }
        cards(x, 7, 7, 7, 7, 7, 7, 7, 7, 7, 7, 7, 7, 7, 7, 0, 1);
    }

    @Says(promise = 26, value = "STATE: none was kept, or a SIGN was read since (of the same text, too).")
    private static void noImage() {
        refuses("restore() of a new object", STATE, EachEye::new, EachEye::restore);
        refuses("restore() without a sign", STATE, Edges::unsigned, EachEye::restore);
        refuses("restore() without an image", STATE, () -> withSign("123456"), EachEye::restore);
        for (String text : new String[] {"123456", "000000"}) {
            refuses("restore() behind " + text, STATE, () -> {
                EachEye x = withSign("123456");
                x.person(SPY, 7, 7);
                x.image();
                return signed(x, text);
            }, EachEye::restore);
        }
        EachEye x = withSign("123456");
        x.image();
        page(x, "12345").sign();
        is("restore() behind a sign() that was refused", x.restore(), 0);
        x.blank();
        page(x, "123456").sign();
        is("restore()", x.restore(), STATE);
        x.person(SPY, 7, 7);
        x.image();
        is("restore() of an image since", x.restore(), 1);
    }

    private static EachEye signed(EachEye x, String text) {
        page(x, text).sign();
        return x;
    }

    // ---- promise 27

    @Says(promise = 27, value = "How many: 0 CELLS whose HUE is not 0, 1 PEOPLE, 2 INKS")
    private static void leastAndMost() {
        int[] bare = {0, 0, 0, 0, 0, 0, 0, 0, 0};
        int[] all = {6, 4, 5, 2, 1, 8, 10, 1, 60};
        for (int what = 0; what <= 8; what++) {
            is("count(" + what + ") of a new object", new EachEye().count(what), bare[what]);
            is("count(" + what + ") of one where all is full", asked().count(what), all[what]);
        }
    }

    @Says(promise = 27, value = "3 LAYERS that were done of this SIGN (also such as changed nothing)")
    private static void layersDone() {
        EachEye x = withSign("777777");
        x.ink(7);
        for (int done = 1; done <= 300; done++) {
            is("layer(0, ..) that changes nothing", x.layer(0, done % 64), 0);
        }
        is("layer(0, 64)", x.layer(0, 64), OUTSIDE);
        is("layer(1, 63)", x.layer(1, 63), UNKNOWN);
        is("count(3)", x.count(3), 300);
        signed(x, "777777");
        is("count(3) of the next sign", x.count(3), 0);
    }

    @Says(promise = 27, value = "7 how often a SIGN was read")
    private static void signsRead() {
        EachEye x = new EachEye();
        for (int times = 1; times <= 60; times++) {
            signed(x, "000000");
            is("count(7)", x.count(7), times);
        }
        is("sign() of no letters", x.sign(), STATE);
        is("count(7)", x.count(7), 60);
        x.image();
        x.restore();
        is("count(7) behind restore()", x.count(7), 60);
    }

    @Says(promise = 27, value = "OUTSIDE.")
    private static void noSuchCount() {
        refusesFar("count()", OUTSIDE, Edges::rich, EachEye::count, 9, 10);
        refusesFar("count() of a new object", OUTSIDE, EachEye::new, EachEye::count, 9, 10);
    }

    // ---- promise 28

    @Says(promise = 28, value = "h is 853, then for each of these numbers, in order, 31 times h, and it (as longs, wrapping)")
    private static void wrapping() {
        for (Supplier<EachEye> state : STATES) {
            EachEye x = state.get();
            BigInteger h = BigInteger.valueOf(853);
            for (long number : toldOf(x)) {
                h = h.multiply(BigInteger.valueOf(31)).add(BigInteger.valueOf(number));
            }
            is("digest()", x.digest(), h.longValue());
        }
        BigInteger most = BigInteger.valueOf(853).multiply(BigInteger.valueOf(31).pow(17));
        is("a sign alone is enough to wrap: bits above 64", most.bitLength() > 64 ? 1 : 0, 1);
        long[] zeroes = new long[17];
        zeroes[15] = 1;
        is("digest() of a black sign", withSign("000000").digest(), folded(zeroes));
    }

    private static long folded(long[] numbers) {
        BigInteger h = BigInteger.valueOf(853);
        for (long number : numbers) {
            h = h.multiply(BigInteger.valueOf(31)).add(BigInteger.valueOf(number));
        }
        return h.longValue();
    }

    @Says(promise = 28, value = "with a SIGN (all up to the next semicolon) of each CELL its HUE, what few() tells for 0 and 1;")
    private static void withAndWithoutASign() {
        long[] bare = new long[9];
        is("digest() of a new object", new EachEye().digest(), folded(bare));
        is("digest() of ten letters", withPage("~~~~~~~~~\u0001").digest(),
                folded(new long[] {126, 126, 126, 126, 126, 126, 126, 126, 126, 1, 0, 0, 0, 0, 0, 0, 10, 0, 0}));
        EachEye x = withSign("000000");
        x.person(PERSON, 0, 0);
        tell(x, 0, "000001");
        is("digest() where few() is none", x.digest(), folded(new long[] {0, 0, 0, 0, 0, 0, NONE, NONE,
            0, 0, 0, 1, 0, 0, 0, 0, 0, 0, 0, 0, 0, 0, 0, 1, NONE, 8, 0, 1, 0, 0, 1, 0, 0, 1, 0}));
    }

    @Says(promise = 28, value = "what few() tells for 0 and 1;")
    private static void unlikeNumbersOfFew() {
        EachEye x = withSign("000000");
        x.person(PERSON, 7, 7);
        x.ink(1);
        x.ink(2);
        x.ink(6);
        tell(x, 0, "777777");
        is("few(0)", x.few(0), 2);
        is("few(1)", x.few(1), 5);
        is("digest()", x.digest(), folded(new long[] {0, 0, 0, 0, 0, 0, 2, 5,
            PERSON, 7, 7, 8, 0, 0, 0, 0, 0, 0, 7, 7, 7, 7, 7, 7, NONE, 8,
            1, 2, 6, 0, 1, 3, 0, 1, 0, 0, 1, 0}));
    }

    /** What the digest is of, by the calls that tell it; the letters are known: "12x" or "12x7777777". */
    private static List<Long> toldOf(EachEye x) {
        List<Long> all = new ArrayList<>();
        if (x.hue(0) != UNKNOWN) {
            for (int cell = 0; cell < 6; cell++) {
                all.add((long) x.hue(cell));
            }
            all.add((long) x.few(0));
            all.add((long) x.few(1));
        }
        for (int a = 0; a < x.count(1); a++) {
            for (int what = 0; what <= 25; what++) {
                if (what <= 3 || what >= 10 && what <= 15 || what >= 20) {
                    all.add((long) x.about(a, what));
                }
            }
            for (int b = 0; b < x.count(1); b++) {
                all.add((long) x.differ(a, b));
                all.add((long) x.alike(a, b));
            }
        }
        for (int ink = 0; ink < x.count(2); ink++) {
            all.add((long) x.inkOf(ink));
        }
        for (int i = 0; i < x.count(6); i++) {
            all.add((long) "12x7777777".charAt(i));
        }
        for (int what = 0; what <= 8; what++) {
            all.add((long) x.count(what));
        }
        return all;
    }

    // ---- all calls

    @Says(promise = 0, value = "they change nothing.")
    private static void manyRefusals() {
        for (Supplier<EachEye> state : STATES) {
            refuses("all calls, wrongly", 0, state, x -> {
                refuseAll(x);
                return 0;
            });
        }
    }

    /** Each call once or more, by arguments that none takes in any state. */
    private static void refuseAll(EachEye x) {
        int[] told = {x.letter(0), x.letter(127), x.hue(6), x.hue(-1), x.layer(5, 63), x.layer(-1, 0), x.person(5, 0, 0),
            x.person(0, 8, 0), x.person(0, 0, -1), x.about(4, 0), x.as(4, 0), x.sees(4, 0), x.eye(4, 0, 0), x.ink(0),
            x.ink(8), x.inkOf(5), x.word(4), x.word(-1), x.unword(4), x.differ(4, 4), x.alike(4, 4), x.few(2),
            x.card(8, 0), x.card(0, 8), x.who(2), x.who(-1), x.ageing(4, 1, 0, 0), x.ageing(-1, 1, 0, 0), x.count(9),
            x.count(-1)};
        for (int i = 0; i < told.length; i++) {
            is("it is a refusal: the " + i + ".", told[i] == UNKNOWN || told[i] == OUTSIDE ? 1 : 0, 1);
        }
        for (int who = 0; who < x.count(1); who++) {
            is("about(" + who + ", 4)", x.about(who, 4), OUTSIDE);
            is("as(" + who + ", 5)", x.as(who, 5), OUTSIDE);
            is("sees(" + who + ", 8)", x.sees(who, 8), OUTSIDE);
            is("eye(" + who + ", 2, 0)", x.eye(who, 2, 0), OUTSIDE);
            is("eye(" + who + ", 0, 8)", x.eye(who, 0, 8), OUTSIDE);
            is("ageing(" + who + ", 61, 0, 0)", x.ageing(who, 61, 0, 0), OUTSIDE);
        }
        for (int ink = 0; ink < x.count(2); ink++) {
            is("layer(" + ink + ", 64)", x.layer(ink, 64), OUTSIDE);
        }
    }

    @Says(promise = 0, value = "Refusals, of several the first as told by each call")
    private static void refusalsByState() {
        // each of these could be refused for each reason that its promise names, as far as they go together
        is("letter()", full().letter(0), OUTSIDE);
        is("layer()", full().layer(5, 64), UNKNOWN);
        is("person() without a sign", unsigned().person(5, 8, 8), OUTSIDE);
        is("person(), the fifth", full().person(5, 8, 8), OUTSIDE);
        is("about()", full().about(4, 4), UNKNOWN);
        is("as()", full().as(4, 5), UNKNOWN);
        is("sees()", full().sees(4, 8), UNKNOWN);
        is("eye()", full().eye(4, 2, 8), UNKNOWN);
        is("ink() without a sign", unsigned().ink(8), OUTSIDE);
        is("ink(), the sixth", full().ink(8), OUTSIDE);
        is("word()", full().word(4), UNKNOWN);
        is("few()", unsigned().few(2), OUTSIDE);
        is("card()", full().card(8, 8), OUTSIDE);
        is("who()", asked().who(2), OUTSIDE);
        is("ageing()", full().ageing(4, 0, -1, 3), UNKNOWN);
    }

    @Says(promise = 0, value = "An object is used for at most 512 calls after it has been made")
    private static void theLastCall() {
        EachEye x = worn("130000");
        is("letter(50), the 512th", x.letter('2'), 1);
        x = worn("130000");
        is("digest(), the 512th", x.digest(), folded(new long[] {1, 3, 0, 0, 0, 0, 0, 0,
            SPY, 1, 2, 2, 0, 2, 0, 0, 0, 0, NONE, NONE, NONE, NONE, NONE, NONE, NONE, 8,
            7, 2, 1, 1, 0, 0, 0, 0, 1, 60}));
        x = worn("130000");
        is("restore(), the 512th", x.restore(), 1);
        x = worn("130000");
        is("who(0), the 512th", x.who(0), STATE);
        x = worn("130000");
        is("layer(0, 63), the 512th", x.layer(0, 63), 6);
        x = worn("130000");
        is("person(3, 7, 7), the 512th", x.person(WINKER, 7, 7), 1);
        x = new EachEye();
        for (int i = 1; i <= 73; i++) {
            page(x, "000007").sign();
        }
        is("count(7), the 512th", x.count(7), 73);
    }

    /** One with a spy, an ink and an image, of which 511 calls were done, the last ones of them without an end. */
    private static EachEye worn(String sign) {
        EachEye x = withSign(sign); // 7 calls
        x.person(SPY, 1, 2);
        x.ink(7);
        x.image();
        for (int i = 0; i < 60; i++) {
            x.who(0);
        }
        for (int i = 0; i < 220; i++) { // 70 were done
            x.person(OLD, 7, 7);
            x.restore();
        }
        x.blank(); // the 511th
        return x;
    }
}
