/** The edges of PEOPLE, their EYES, and of INKS: promises 8 to 14. */
public final class PeopleEdgeTest extends Edges {
    public static void main(String[] args) throws ReflectiveOperationException {
        run(PeopleEdgeTest.class);
    }

    /** A sign, and one of a kind who sees it. */
    private static EachEye one(String sign, int kind, int left, int right) {
        EachEye x = withSign(sign);
        x.person(kind, left, right);
        return x;
    }

    // ---- promise 8

    @Says(promise = 0, value = "PEOPLE (4 at most, numbered)")
    private static void numbers() {
        EachEye x = withSign("000000");
        for (int number = 0; number < 4; number++) {
            is("about() of one who has not come", x.about(number, 1), UNKNOWN);
            is("person()", x.person(PERSON, number, 7 - number), number);
            is("about(" + number + ", 1)", x.about(number, 1), number);
            is("about(" + number + ", 2)", x.about(number, 2), 7 - number);
        }
        is("about(4, 1)", x.about(4, 1), UNKNOWN);
        is("about(0, 1) as before", x.about(0, 1), 0);
    }

    @Says(promise = 8, value = "OUTSIDE: kind, left, right")
    private static void noSuchKindOrEye() {
        refusesFar("person() with a kind", OUTSIDE, Edges::rich, (x, kind) -> x.person(kind, 7, 7), 5, 6, 7, 8);
        refusesFar("person() with a left eye", OUTSIDE, Edges::rich, (x, left) -> x.person(PERSON, left, 7), 8, 15);
        refusesFar("person() with a right eye", OUTSIDE, Edges::rich, (x, right) -> x.person(SPY, 0, right), 8, 15);
        for (int kind = 0; kind < 5; kind++) {
            for (int eye = 0; eye < 8; eye++) {
                is("person(" + kind + ", " + eye + ", ..)", withSign("000000").person(kind, eye, 7 - eye), 0);
            }
        }
    }

    @Says(promise = 8, value = "STATE: no SIGN")
    private static void noSign() {
        refuses("person(0, 0, 0) without a sign", STATE, Edges::unsigned, x -> x.person(PERSON, 0, 0));
        refuses("person(4, 7, 7) without a sign", STATE, EachEye::new, x -> x.person(SPY, 7, 7));
    }

    @Says(promise = 8, value = "FULL.")
    private static void theFifth() {
        is("person(), the fourth", rich().person(SPY, 7, 7), 3);
        refuses("person(), the fifth", FULL, Edges::full, x -> x.person(PERSON, 0, 0));
        refuses("person(), the fifth", FULL, Edges::full, x -> x.person(SPY, 7, 7));
    }

    @Says(promise = 8, value = "OUTSIDE: kind, left, right; STATE: no SIGN; FULL.")
    private static void outsideAheadOfAll() {
        refusesFar("person() without a sign", OUTSIDE, Edges::unsigned, (x, far) -> x.person(far, 0, 0), 5);
        refusesFar("person() without a sign", OUTSIDE, Edges::unsigned, (x, far) -> x.person(0, far, 0), 8);
        refusesFar("person() without a sign", OUTSIDE, Edges::unsigned, (x, far) -> x.person(0, 0, far), 8);
        refusesFar("person(), the fifth", OUTSIDE, Edges::full, (x, far) -> x.person(far, 0, 0), 5);
        refusesFar("person(), the fifth", OUTSIDE, Edges::full, (x, far) -> x.person(0, far, 0), 8);
        refusesFar("person(), the fifth", OUTSIDE, Edges::full, (x, far) -> x.person(0, 0, far), 8);
    }

    // ---- promise 9

    @Says(promise = 9, value = "what = 0 KIND, 1 LEFT, 2 RIGHT")
    private static void leastAndMost() {
        for (int kind = 0; kind < 5; kind++) {
            for (int eye = 0; eye < 8; eye++) {
                EachEye x = one("000000", kind, eye, 7 - eye);
                is("about(0, 0)", x.about(0, 0), kind);
                is("about(0, 1)", x.about(0, 1), eye);
                is("about(0, 2)", x.about(0, 2), 7 - eye);
            }
        }
    }

    @Says(promise = 9, value = "3 how many of HUES 0 to 7 he SEES as they are")
    private static void oneToEight() {
        is("an arguer whose eyes agree: black alone", one("000000", ARGUER, 7, 7).about(0, 3), 1);
        is("a person without eyes: black alone", one("000000", PERSON, 0, 0).about(0, 3), 1);
        is("an old one whose eyes have nothing in common", one("000000", OLD, 5, 2).about(0, 3), 1);
        is("a person with all parts in both eyes", one("000000", PERSON, 4, 3).about(0, 3), 8);
        is("an arguer with all parts in one eye each", one("000000", ARGUER, 4, 3).about(0, 3), 8);
        is("an old one with all parts", one("000000", OLD, 7, 7).about(0, 3), 8);
        is("a winker with all parts at the left", one("000000", WINKER, 7, 0).about(0, 3), 8);
        is("a winker with all parts at the right", one("000000", WINKER, 0, 7).about(0, 3), 8);
        is("a winker who has no hue of both: 0, 1, 2, 3, 4", one("000000", WINKER, 3, 4).about(0, 3), 5);
        is("a spy with all parts at the left", one("000000", SPY, 7, 0).about(0, 3), 1);
        is("a spy with all parts at the right", one("000000", SPY, 0, 7).about(0, 3), 8);
    }

    @Says(promise = 9, value = "10 to 15 what he READS of CELL 0 to 5")
    private static void firstAndLastCell() {
        EachEye x = one("700001", PERSON, 5, 0);
        int[] want = {5, 0, 0, 0, 0, 1};
        for (int cell = 0; cell < 6; cell++) {
            is("about(0, 1" + cell + ")", x.about(0, 10 + cell), want[cell]);
        }
    }

    @Says(promise = 9, value = "20 to 25 what he is told to by a WORD (NONE: none is told)")
    private static void toldAndNotTold() {
        EachEye x = one("000000", PERSON, 7, 7);
        x.person(PERSON, 7, 7);
        tell(x, 1, "700001");
        int[] want = {7, 0, 0, 0, 0, 1};
        for (int cell = 0; cell < 6; cell++) {
            is("about(0, 2" + cell + ") of one who is not told", x.about(0, 20 + cell), NONE);
            is("about(1, 2" + cell + ")", x.about(1, 20 + cell), want[cell]);
        }
        x.unword(1);
        for (int cell = 0; cell < 6; cell++) {
            is("about(1, 2" + cell + ") behind unword()", x.about(1, 20 + cell), NONE);
        }
    }

    @Says(promise = 9, value = "UNKNOWN; OUTSIDE.")
    private static void noSuchOneNorWhat() {
        int[] between = {4, 5, 9, 16, 17, 19, 26, 27, 30};
        refusesFar("about() what", OUTSIDE, Edges::rich, (x, what) -> x.about(0, what), between);
        for (int known : new int[] {0, 1, 2, 3, 10, 15, 20, 25}) {
            refusesFar("about(.., " + known + ")", UNKNOWN, Edges::rich, (x, who) -> x.about(who, known), 3, 4);
        }
        refusesFar("about(.., 0) of four", UNKNOWN, Edges::full, (x, who) -> x.about(who, 0), 4, 5);
        refusesFar("about(.., 0) without a sign", UNKNOWN, Edges::unsigned, (x, who) -> x.about(who, 0), 0);
        refusesFar("about() of nobody's", UNKNOWN, Edges::rich, (x, what) -> x.about(3, what), between);
        refusesFar("about(.., 4)", UNKNOWN, Edges::rich, (x, who) -> x.about(who, 4), 3);
    }

    // ---- promise 10

    @Says(promise = 0, value = "KINDS: 0 PERSON, 1 ARGUER, 2 OLD, 3 WINKER, 4 SPY")
    private static void eachKindSeesInItsWay() {
        int[] want = {7, 5, 2, 3, 6};
        for (int kind = 0; kind < 5; kind++) {
            is("sees(0, 7) of kind " + kind, one("000000", kind, 3, 6).sees(0, 7), want[kind]);
        }
    }

    @Says(promise = 0, value = "All are PEOPLE; a SPY is a WINKER, too.")
    private static void whoIsWhat() {
        String[] so = {"x....", "xx...", "x.x..", "x..x.", "x..xx"};
        for (int own = 0; own < 5; own++) {
            for (int kind = 0; kind < 5; kind++) {
                EachEye x = one("000000", PERSON, 0, 0);
                x.person(own, 1, 2);
                is("as(1, " + kind + ") of kind " + own, x.as(1, kind), so[own].charAt(kind) == 'x' ? 1 : NONE);
            }
        }
    }

    @Says(promise = 10, value = "his own number, not that of the KIND (of KIND 0 each is one); NONE: he is none such (the cast fails).")
    private static void ownNumber() {
        EachEye x = full();
        int[] kinds = {WINKER, OLD, SPY, ARGUER};
        for (int number = 0; number < 4; number++) {
            is("as(" + number + ", 0)", x.as(number, PERSON), number);
            is("as(" + number + ", his)", x.as(number, kinds[number]), number);
            is("about(" + number + ", 0) behind it", x.about(number, 0), kinds[number]);
        }
        is("as(2, 3) of the spy", x.as(2, WINKER), 2);
        is("as(0, 4) of the winker", x.as(0, SPY), NONE);
        is("as(1, 1) of the old one", x.as(1, ARGUER), NONE);
        is("as(3, 2) of the arguer", x.as(3, OLD), NONE);
        is("as(0, 1) of a person", one("000000", PERSON, 7, 7).as(0, ARGUER), NONE);
    }

    @Says(promise = 10, value = "UNKNOWN; OUTSIDE.")
    private static void noSuchOneNorKind() {
        refusesFar("as() a kind", OUTSIDE, Edges::rich, (x, kind) -> x.as(0, kind), 5, 6, 8);
        for (int kind = 0; kind < 5; kind++) {
            int known = kind;
            refusesFar("as(.., " + kind + ")", UNKNOWN, Edges::rich, (x, who) -> x.as(who, known), 3, 4);
        }
        refusesFar("as(.., 0) without a sign", UNKNOWN, Edges::unsigned, (x, who) -> x.as(who, PERSON), 0);
        refusesFar("as() with both", UNKNOWN, Edges::rich, (x, far) -> x.as(far, 5), 3);
        refusesFar("as() with both", UNKNOWN, Edges::rich, (x, far) -> x.as(3, far), 5);
    }

    // ---- promise 11

    @Says(promise = 0, value = "an ARGUER what just one of both does; an OLD one what both do;")
    private static void eyesThatAgree() {
        for (int eye = 0; eye < 8; eye++) {
            for (int hue = 0; hue < 8; hue++) {
                is("an arguer's like eyes", one("000000", ARGUER, eye, eye).sees(0, hue), 0);
                is("an old one's like eyes", one("000000", OLD, eye, eye).sees(0, hue), hue & eye);
                is("an arguer's unlike eyes", one("000000", ARGUER, eye, 7 - eye).sees(0, hue), hue);
                is("an old one's unlike eyes", one("000000", OLD, eye, 7 - eye).sees(0, hue), 0);
            }
        }
    }

    @Says(promise = 0, value = "a WINKER what the LEFT one does, and, if that is nothing, what the RIGHT one does;")
    private static void leftSeesNothing() {
        EachEye x = one("000000", WINKER, RED, GREEN + BLUE);
        int[] want = {0, 1, 2, 1, 4, 1, 6, 1};
        for (int hue = 0; hue < 8; hue++) {
            is("sees(0, " + hue + ")", x.sees(0, hue), want[hue]);
        }
        is("with two eyes that see nothing of it", one("000000", WINKER, RED, GREEN).sees(0, BLUE), 0);
        is("with like eyes", one("000000", WINKER, RED, RED).sees(0, 7), RED);
    }

    @Says(promise = 0, value = "a SPY what the RIGHT one does.")
    private static void theSpysLeftEyeIsShut() {
        for (int eye = 0; eye < 8; eye++) {
            is("a spy whose right eye sees nothing", one("000000", SPY, eye, 0).sees(0, 7), 0);
            is("a spy whose right eye sees all", one("000000", SPY, eye, 7).sees(0, 7), 7);
        }
    }

    @Says(promise = 11, value = "UNKNOWN; OUTSIDE: hue.")
    private static void noSuchHueToSee() {
        refusesFar("sees() a hue", OUTSIDE, Edges::rich, (x, hue) -> x.sees(0, hue), 8, 9, 15);
        refusesFar("sees(.., 0)", UNKNOWN, Edges::rich, (x, who) -> x.sees(who, 0), 3, 4);
        refusesFar("sees(.., 7) of four", UNKNOWN, Edges::full, (x, who) -> x.sees(who, 7), 4);
        refusesFar("sees(.., 7) without a sign", UNKNOWN, Edges::unsigned, (x, who) -> x.sees(who, 7), 0);
        refusesFar("sees() with both", UNKNOWN, Edges::rich, (x, far) -> x.sees(far, 8), 3);
        refusesFar("sees() with both", UNKNOWN, Edges::rich, (x, far) -> x.sees(3, far), 8);
        is("sees(0, 0), the least", one("000000", PERSON, 7, 7).sees(0, 0), 0);
        is("sees(0, 7), the most", one("000000", PERSON, 7, 7).sees(0, 7), 7);
    }

    // ---- promise 12

    @Says(promise = 12, value = "An EYE (0 LEFT, 1 RIGHT) becomes another one: what it was.")
    private static void leastAndMostEyes() {
        EachEye x = one("777777", OLD, 7, 0);
        is("eye(0, 0, 0)", x.eye(0, 0, 0), 7);
        is("eye(0, 0, 0), the same", x.eye(0, 0, 0), 0);
        is("eye(0, 1, 7)", x.eye(0, 1, 7), 0);
        is("eye(0, 1, 7), the same", x.eye(0, 1, 7), 7);
        is("about(0, 1)", x.about(0, 1), 0);
        is("about(0, 2)", x.about(0, 2), 7);
        is("about(0, 10)", x.about(0, 10), 0);
        is("eye(0, 0, 7)", x.eye(0, 0, 7), 0);
        is("about(0, 10)", x.about(0, 10), 7);
        EachEye y = full();
        is("eye(3, 1, 0) of the fourth", y.eye(3, 1, 0), 1);
        is("about(3, 1)", y.about(3, 1), 5);
        is("about(3, 2)", y.about(3, 2), 0);
    }

    @Says(promise = 12, value = "UNKNOWN; OUTSIDE: which, eye.")
    private static void noSuchEye() {
        refusesFar("eye() which", OUTSIDE, Edges::rich, (x, which) -> x.eye(0, which, 7), 2, 3);
        refusesFar("eye(0, 0, ..)", OUTSIDE, Edges::rich, (x, eye) -> x.eye(0, 0, eye), 8, 9, 15);
        refusesFar("eye(0, 1, ..)", OUTSIDE, Edges::rich, (x, eye) -> x.eye(0, 1, eye), 8, 9, 15);
        refusesFar("eye(.., 0, 7)", UNKNOWN, Edges::rich, (x, who) -> x.eye(who, 0, 7), 3, 4);
        refusesFar("eye(.., 1, 7) of four", UNKNOWN, Edges::full, (x, who) -> x.eye(who, 1, 7), 4);
        refusesFar("eye(.., 1, 7) without a sign", UNKNOWN, Edges::unsigned, (x, who) -> x.eye(who, 1, 7), 0);
        refusesFar("eye() with all", UNKNOWN, Edges::rich, (x, far) -> x.eye(far, 2, 8), 3);
        refusesFar("eye() with all", UNKNOWN, Edges::rich, (x, far) -> x.eye(3, far, 0), 2);
        refusesFar("eye() with all", UNKNOWN, Edges::rich, (x, far) -> x.eye(3, 0, far), 8);
    }

    // ---- promise 13

    @Says(promise = 0, value = "INKS (5 at most, numbered) are HUES 1 to 7.")
    private static void inkNumbers() {
        EachEye x = withSign("000000");
        for (int number = 0; number < 5; number++) {
            is("inkOf() of one that has not come", x.inkOf(number), UNKNOWN);
            is("ink()", x.ink(7 - number), number);
            is("inkOf(" + number + ")", x.inkOf(number), 7 - number);
        }
        for (int hue = 1; hue < 8; hue++) {
            EachEye y = withSign("000000");
            is("ink(" + hue + ")", y.ink(hue), 0);
            is("ink(" + hue + "), a like one", y.ink(hue), 1);
            is("inkOf(1)", y.inkOf(1), hue);
        }
    }

    @Says(promise = 13, value = "OUTSIDE: hue (1 to 7)")
    private static void noSuchHueOfAnInk() {
        refusesFar("ink()", OUTSIDE, Edges::rich, EachEye::ink, 0, 8, 9, 15);
    }

    @Says(promise = 13, value = "STATE: no SIGN")
    private static void noSignToInk() {
        refuses("ink(1) without a sign", STATE, Edges::unsigned, x -> x.ink(1));
        refuses("ink(7) without a sign", STATE, EachEye::new, x -> x.ink(7));
    }

    @Says(promise = 13, value = "FULL.")
    private static void theSixth() {
        EachEye x = rich();
        is("ink(7), the fourth", x.ink(7), 3);
        is("ink(7), the fifth", x.ink(7), 4);
        is("ink(7), the sixth", x.ink(7), FULL);
        refuses("ink(1), the sixth", FULL, Edges::full, y -> y.ink(1));
        refuses("ink(7), the sixth", FULL, Edges::full, y -> y.ink(7));
    }

    @Says(promise = 13, value = "OUTSIDE: hue (1 to 7); STATE: no SIGN; FULL.")
    private static void outsideAheadOfStateAndFull() {
        refusesFar("ink() without a sign", OUTSIDE, Edges::unsigned, EachEye::ink, 0, 8);
        refusesFar("ink(), the sixth", OUTSIDE, Edges::full, EachEye::ink, 0, 8);
    }

    // ---- promise 14

    @Says(promise = 14, value = "The HUE of an INK. UNKNOWN.")
    private static void firstAndLastInk() {
        EachEye x = full();
        int[] want = {GREEN, BLUE, RED, 7, 3};
        for (int number = 0; number < 5; number++) {
            is("inkOf(" + number + ")", x.inkOf(number), want[number]);
        }
        refusesFar("inkOf() of three", UNKNOWN, Edges::rich, EachEye::inkOf, 3, 4, 5);
        refusesFar("inkOf() of five", UNKNOWN, Edges::full, EachEye::inkOf, 5, 6);
        refusesFar("inkOf() without a sign", UNKNOWN, Edges::unsigned, EachEye::inkOf, 0);
        refusesFar("inkOf() with a sign alone", UNKNOWN, () -> withSign("777777"), EachEye::inkOf, 0);
    }
}
