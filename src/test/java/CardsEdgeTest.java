import java.math.BigInteger;

/** The edges of CARDS, WHO, NEXT and AGEING: promises 20 to 24. */
public final class CardsEdgeTest extends Edges {
    private static final String NEVER_MORE = "who(), next() were done 60 times ever together";

    public static void main(String[] args) throws ReflectiveOperationException {
        run(CardsEdgeTest.class);
    }

    private static void isWho(String when, EachEye x, int many, int least) {
        is("who(0) " + when, x.who(0), many);
        is("who(1) " + when, x.who(1), least);
    }

    // ---- promise 20

    @Says(promise = 0, value = "CARDS (8 at most): that one, of whom it is not known who, said of a HUE that he SEES a HUE.")
    private static void eightCards() {
        EachEye x = new EachEye();
        int[] laid = {7, 3, 7, 3, 0, 0, 4, 0, 7, 3, 1, 1, 2, 2, 3, 2};
        for (int i = 0; i < 8; i++) {
            is("card(), the " + (i + 1) + ".", x.card(laid[2 * i], laid[2 * i + 1]), i + 1);
        }
        is("count(5)", x.count(5), 8);
        isWho("of eight cards, the last one of which nobody can have said", x, 0, NONE);
    }

    @Says(promise = 20, value = "A CARD: how many there are. OUTSIDE: hue, said (0 to 7 each)")
    private static void leastAndMostHues() {
        for (int hue = 0; hue < 8; hue++) {
            for (int said = 0; said < 8; said++) {
                EachEye x = new EachEye();
                is("card(" + hue + ", " + said + ")", x.card(hue, said), 1);
                is("the same again", x.card(hue, said), 2);
            }
        }
        refusesFar("card() of a hue", OUTSIDE, Edges::rich, (x, hue) -> x.card(hue, 0), 8, 9, 15);
        refusesFar("card() of what he said", OUTSIDE, Edges::rich, (x, said) -> x.card(7, said), 8, 9, 15);
        refusesFar("card() of both", OUTSIDE, Edges::unsigned, (x, far) -> x.card(far, far), 8, 9, 15);
    }

    @Says(promise = 20, value = "FULL.")
    private static void theNinth() {
        refuses("card(0, 0), the ninth", FULL, Edges::full, x -> x.card(0, 0));
        refuses("card(7, 7), the ninth", FULL, Edges::full, x -> x.card(7, 7));
        EachEye x = full();
        is("forget()", x.forget(), 8);
        for (int i = 1; i <= 8; i++) {
            is("card() behind forget()", x.card(0, 0), i);
        }
        is("card(), the ninth behind forget()", x.card(0, 0), FULL);
    }

    @Says(promise = 20, value = "OUTSIDE: hue, said (0 to 7 each); FULL.")
    private static void outsideAheadOfFull() {
        refusesFar("card(.., 0), the ninth", OUTSIDE, Edges::full, (x, hue) -> x.card(hue, 0), 8);
        refusesFar("card(0, ..), the ninth", OUTSIDE, Edges::full, (x, said) -> x.card(0, said), 8);
    }

    // ---- promise 21

    @Says(promise = 21, value = "All CARDS are gone: how many there were.")
    private static void noneToEight() {
        for (int had = 0; had <= 8; had++) {
            EachEye x = new EachEye();
            for (int i = 0; i < had; i++) {
                x.card(7, 3);
            }
            is("forget() of " + had, x.forget(), had);
            is("forget() again", x.forget(), 0);
            is("count(5)", x.count(5), 0);
            isWho("behind forget()", x, 320, 0);
        }
    }

    // ---- promise 22

    @Says(promise = 0, value = "so that all CARDS are so: how many; the least.")
    private static void allToNobody() {
        isWho("without cards", new EachEye(), 320, 0);
        isWho("behind what all say", cards(new EachEye(), 0, 0), 320, 0);
        isWho("behind what nobody says of black", cards(new EachEye(), 0, 1), 0, NONE);
        isWho("behind a part that isn't shown", cards(new EachEye(), 6, 1), 0, NONE);
        isWho("behind two cards that can't both be", cards(new EachEye(), 7, 3, 7, 4), 0, NONE);
        isWho("when the first of eight can't be", cards(new EachEye(), 0, 7, 0, 0, 0, 0, 0, 0, 0, 0, 0, 0, 0, 0, 0, 0), 0, NONE);
        isWho("when the last of eight can't be", cards(new EachEye(), 0, 0, 0, 0, 0, 0, 0, 0, 0, 0, 0, 0, 0, 0, 0, 7), 0, NONE);
        // the left eye red alone, the right one green and blue at least: two winkers
        isWho("of two alone", cards(new EachEye(), 7, 1, 6, 6), 2, 64 * WINKER + 8 * RED + GREEN + BLUE);
    }

    @Says(promise = 0, value = "(64 times KIND, 8 times LEFT, and RIGHT)")
    private static void leastCodes() {
        // whatever a spy, a person, an arguer or an old one sees, a person whose left eye sees nothing sees
        for (int eye = 0; eye < 8; eye++) {
            is("who(1) of 7, " + eye, cards(new EachEye(), 7, eye).who(1), eye);
        }
        is("who(1), the greatest", cards(new EachEye(), 7, 6, 1, 1).who(1), 64 * WINKER + 8 * 6 + 1);
        is("who(1) of red at the left, green at the right", cards(new EachEye(), 3, 1, 2, 2).who(1), 64 * WINKER + 8 + 2);
    }

    @Says(promise = 22, value = "WHO: what = 0 how many, 1 the least (NONE). OUTSIDE;")
    private static void noSuchWhat() {
        refusesFar("who()", OUTSIDE, Edges::rich, EachEye::who, 2, 3);
        refusesFar("who() without a sign", OUTSIDE, Edges::unsigned, EachEye::who, 2, 3);
    }

    @Says(promise = 22, value = "STATE: " + NEVER_MORE)
    private static void theSixtiethAndTheNext() {
        EachEye x = new EachEye();
        for (int i = 1; i <= 60; i++) {
            is("who(), the " + i + ".", x.who(i % 2), i % 2 == 0 ? 320 : 0);
            is("count(8)", x.count(8), i);
        }
        is("who(0), the 61st", x.who(0), STATE);
        is("who(1), the 61st", x.who(1), STATE);
        is("next(), the 61st", x.next(), STATE);
        is("count(8)", x.count(8), 60);
        refuses("who(0), the 61st", STATE, Edges::asked, y -> y.who(0));
        refuses("who(1), the 61st", STATE, Edges::asked, y -> y.who(1));
    }

    @Says(promise = 22, value = NEVER_MORE + " (refusals do not count, all else does).")
    private static void whatCounts() {
        EachEye x = cards(new EachEye(), 0, 1);
        for (int i = 1; i <= 30; i++) {
            is("who(2)", x.who(2), OUTSIDE);
            is("who(1) of nobody", x.who(1), NONE);
            is("who(-1)", x.who(-1), OUTSIDE);
            is("next() of nobody", x.next(), NONE);
            is("count(8)", x.count(8), 2 * i);
        }
        is("who(0), the 61st", x.who(0), STATE);
        is("next(), the 61st", x.next(), STATE);
        is("count(8)", x.count(8), 60);
    }

    @Says(promise = 22, value = "were done 60 times ever together")
    private static void acrossSignsAndImages() {
        EachEye x = rich();
        while (x.count(8) < 59) {
            x.next();
        }
        x.restore();
        is("count(8) behind restore()", x.count(8), 59);
        x.blank();
        page(x, "000000").sign();
        is("count(8) behind sign()", x.count(8), 59);
        x.forget();
        is("who(0), the 60th", x.who(0), 320);
        page(x, "000000").sign();
        x.image();
        x.restore();
        is("who(0), the 61st", x.who(0), STATE);
        is("count(8)", x.count(8), 60);
    }

    @Says(promise = 22, value = "OUTSIDE; STATE: " + NEVER_MORE)
    private static void outsideAheadOfState() {
        refusesFar("who(), the 61st", OUTSIDE, Edges::asked, EachEye::who, 2);
    }

    // ---- promise 23

    @Says(promise = 0, value = "the HUE by which fewest of these would be left at worst, whatever he says: of like ones the least.")
    private static void likeOnes() {
        is("next() without cards: white alone is best", new EachEye().next(), 7);
        is("next() of those who all see nothing", cards(new EachEye(), 7, 0).next(), 0);
        is("next() of two who see alike", cards(new EachEye(), 7, 1, 6, 6).next(), 0);
        // of 37 those six who see green or blue at the right alone are told from the others best by both
        is("next() behind 7, 1", cards(new EachEye(), 7, 1).next(), 6);
        // red is nothing to anybody: 6 and 7 are as good
        is("next() behind 1, 0", cards(new EachEye(), 1, 0).next(), 6);
        is("next() behind 3, 0: 4 to 7 are as good", cards(new EachEye(), 3, 0).next(), 4);
        is("next() behind 4, 0: 3 and 7 are as good", cards(new EachEye(), 4, 0).next(), 3);
        is("next() behind 3, 3: 5 to 7 leave 53", cards(new EachEye(), 3, 3).next(), 5);
        is("next() behind 7, 6: red alone", cards(new EachEye(), 7, 6).next(), 1);
    }

    @Says(promise = 23, value = "NEXT;")
    private static void eachTimeByTheCardsThatAre() {
        EachEye x = new EachEye();
        is("next() without cards", x.next(), 7);
        is("next() behind 7, 1", cards(x, 7, 1).next(), 6);
        is("next() behind 7, 1 again", x.next(), 6);
        is("next() behind 7, 1 and 6, 6", cards(x, 6, 6).next(), 0);
        is("next() behind a third that can't be", cards(x, 6, 0).next(), NONE);
        x.forget();
        is("next() behind 7, 6", cards(x, 7, 6).next(), 1);
        x.forget();
        is("next() behind 3, 0", cards(x, 3, 0).next(), 4);
        x.forget();
        is("next() without cards again", x.next(), 7);
    }

    @Says(promise = 23, value = "NEXT; NONE: nobody can be so.")
    private static void nobody() {
        is("next() behind 0, 1", cards(new EachEye(), 0, 1).next(), NONE);
        is("next() behind 7, 3 and 7, 4", cards(new EachEye(), 7, 3, 7, 4).next(), NONE);
        EachEye x = cards(new EachEye(), 7, 3, 7, 3, 7, 3, 7, 3, 7, 3, 7, 3, 7, 3);
        is("next() behind seven cards", x.next(), 4);
        x.card(7, 3);
        is("next() behind eight cards", x.next(), 4);
        x.forget();
        is("next() behind forget()", x.next(), 7);
    }

    @Says(promise = 23, value = "STATE, as who().")
    private static void theSixtiethNext() {
        EachEye x = new EachEye();
        for (int i = 1; i <= 60; i++) {
            is("next(), the " + i + ".", x.next(), 7);
            is("count(8)", x.count(8), i);
        }
        is("next(), the 61st", x.next(), STATE);
        is("who(0), the 61st", x.who(0), STATE);
        is("who(2), the 61st", x.who(2), OUTSIDE);
        is("count(8)", x.count(8), 60);
        refuses("next(), the 61st", STATE, Edges::asked, EachEye::next);
    }

    // ---- promise 24

    private static final BigInteger TWO_TO_31 = BigInteger.ONE.shiftLeft(31);

    private static int seedBehind(int seed, int draws) {
        BigInteger s = BigInteger.valueOf(seed);
        for (int i = 0; i < draws; i++) {
            s = s.multiply(BigInteger.valueOf(1103515245)).add(BigInteger.valueOf(12345)).mod(TWO_TO_31);
        }
        return s.intValueExact();
    }

    private static int drawnWhich(int seed, int year) {
        return seedBehind(seed, 2 * year - 1) / 65536 % 2;
    }

    private static int drawnPart(int seed, int year) {
        return seedBehind(seed, 2 * year) / 65536 % 8;
    }

    /** The least seed by which the first year draws these two. */
    private static int seedFor(int which, int part) {
        int seed = 0;
        while (drawnWhich(seed, 1) != which || drawnPart(seed, 1) != part) {
            seed++;
        }
        return seed;
    }

    private static EachEye one(String sign, int kind, int left, int right) {
        EachEye x = withSign(sign);
        x.person(kind, left, right);
        return x;
    }

    @Says(promise = 0, value = "in each a DRAW of 2 (0 the LEFT EYE, 1 the RIGHT one), a DRAW of 8")
    private static void whichEye() {
        for (int which = 0; which <= 1; which++) {
            int seed = seedFor(which, 0);
            is("red is lost", one("111111", PERSON, 7, 7).ageing(0, 1, seed, 1), 5);
            is("a spy's", one("111111", SPY, 7, 7).ageing(0, 1, seed, 0), which == 1 ? 1 : NONE);
            is("a winker's", one("111111", WINKER, 1, 0).ageing(0, 1, seed, 0), which == 0 ? 1 : NONE);
            is("a person's", one("111111", PERSON, 7, 7).ageing(0, 1, seed, 0), NONE);
            is("an arguer's", one("111111", ARGUER, 7, 7).ageing(0, 1, seed, 0), 1);
            is("an old one's", one("111111", OLD, 7, 7).ageing(0, 1, seed, 0), 1);
        }
    }

    @Says(promise = 0, value = "that EYE has that PART no more, if it is 0 to 2 (red, green, blue), else nothing is changed")
    private static void whichPart() {
        String[] signs = {"111111", "222222", "444444"};
        for (int which = 0; which <= 1; which++) {
            for (int part = 0; part < 8; part++) {
                int seed = seedFor(which, part);
                String draw = " where the draws are " + which + " and " + part;
                is("parts" + draw, one("000000", PERSON, 7, 7).ageing(0, 1, seed, 1), part <= 2 ? 5 : 6);
                for (int seen = 0; seen < 3; seen++) {
                    EachEye x = one(signs[seen], OLD, 7, 7);
                    is("years of " + signs[seen] + draw, x.ageing(0, 1, seed, 0), part == seen ? 1 : NONE);
                }
                is("parts of one who has none" + draw, one("000000", PERSON, 0, 0).ageing(0, 1, seed, 1), 0);
            }
        }
    }

    @Says(promise = 0, value = "behind how many YEARS he READS the SIGN otherwise than now first (none)")
    private static void firstYearToLast() {
        for (int seed = 0; seed < 60; seed++) {
            EachEye x = one("777777", SPY, 7, 7);
            int first = 1;
            while (first <= 60 && (drawnWhich(seed, first) != 1 || drawnPart(seed, first) > 2)) {
                first++;
            }
            if (first > 1) {
                is("a year ahead of " + first, x.ageing(0, Math.min(first - 1, 60), seed, 0), NONE);
            }
            if (first <= 60) {
                is("in the year " + first, x.ageing(0, first, seed, 0), first);
                is("behind the year " + first, x.ageing(0, 60, seed, 0), first);
            }
        }
        is("of a sign without hues", one("000000", SPY, 7, 7).ageing(0, 60, 1, 0), NONE);
        is("of one who sees nothing", one("777777", ARGUER, 7, 7).ageing(0, 1, seedFor(0, 7), 0), NONE);
    }

    @Says(promise = 0, value = "he READS the SIGN otherwise than now")
    private static void onOneCellAlone() {
        for (int cell = 0; cell < 6; cell++) {
            String sign = "000000".substring(0, cell) + "1" + "000000".substring(cell + 1);
            is("years of " + sign, one(sign, OLD, 7, 7).ageing(0, 1, seedFor(0, 0), 0), 1);
            is("years of " + sign + " without red lost", one(sign, OLD, 7, 7).ageing(0, 1, seedFor(0, 2), 0), NONE);
        }
    }

    @Says(promise = 0, value = "otherwise than now first")
    private static void asNowAgain() {
        // an arguer sees red while one eye has lost it, and not when both have: the first year stays
        int seed = 0;
        while (drawnPart(seed, 1) != 0 || drawnPart(seed, 2) != 0 || drawnWhich(seed, 1) == drawnWhich(seed, 2)) {
            seed++;
        }
        EachEye x = one("111111", ARGUER, 1, 1);
        is("behind one year", x.ageing(0, 1, seed, 0), 1);
        is("behind two", x.ageing(0, 2, seed, 0), 1);
        is("parts behind one", x.ageing(0, 1, seed, 1), 1);
        is("parts behind two", x.ageing(0, 2, seed, 1), 0);
    }

    @Says(promise = 0, value = "how many PARTS both EYES have then, each EYE's added.")
    private static void noneToSixParts() {
        for (int left = 0; left < 8; left++) {
            for (int right = 0; right < 8; right++) {
                EachEye x = one("000000", PERSON, left, right);
                int want = Integer.bitCount(left) + Integer.bitCount(right);
                is("parts of " + left + " and " + right, x.ageing(0, 1, seedFor(0, 7), 1), want);
            }
        }
        int seed = 0;
        while (lostParts(seed, 60) != 6) {
            seed++;
        }
        is("all parts are lost", one("000000", PERSON, 7, 7).ageing(0, 60, seed, 1), 0);
        for (int years = 1; years <= 60; years++) {
            is("parts behind " + years, one("000000", OLD, 7, 7).ageing(0, years, seed, 1), 6 - lostParts(seed, years));
        }
    }

    private static int lostParts(int seed, int years) {
        int[] lost = new int[2];
        for (int year = 1; year <= years; year++) {
            int part = drawnPart(seed, year);
            lost[drawnWhich(seed, year)] |= part < 3 ? 1 << part : 0;
        }
        return Integer.bitCount(lost[0]) + Integer.bitCount(lost[1]);
    }

    @Says(promise = 0, value = "1103515245 times it and 12345, its rest by 2 to the 31; then that by 65536 (rounded down), its rest.")
    private static void seedsAndTheirRests() {
        EachEye x = one("000000", PERSON, 7, 7);
        is("the seed behind 0", x.ageing(0, 1, 0, 2), 1406932606);
        int[] seeds = {0, 1, 2, 12345, 65535, 65536, 1 << 30, (1 << 30) + 1, Integer.MAX_VALUE - 1, Integer.MAX_VALUE};
        for (int seed : seeds) {
            for (int years : new int[] {1, 2, 59, 60}) {
                is("the seed behind " + years, x.ageing(0, years, seed, 2), seedBehind(seed, 2 * years));
                is("the seed is 0 at least", Math.min(0, x.ageing(0, years, seed, 2)), 0);
            }
        }
    }

    @Says(promise = 0, value = "AGEING by a SEED, as it would be, of one")
    private static void asItWouldBe() {
        EachEye x = full();
        long before = x.digest();
        for (int what = 0; what < 3; what++) {
            x.ageing(0, 60, 7, what);
            x.ageing(3, 60, 7, what);
        }
        is("digest()", x.digest(), before);
        is("the same again", x.ageing(0, 60, 7, 1), x.ageing(0, 60, 7, 1));
        is("sees(2, 7) of the spy", x.sees(2, 7), BLUE);
    }

    @Says(promise = 24, value = "AGEING: what = 0 behind how many YEARS (NONE), 1 how many PARTS behind all, 2 the SEED then.")
    private static void behindAll() {
        int seed = 0;
        while (drawnWhich(seed, 1) != 1 || drawnPart(seed, 1) != 0 || drawnWhich(seed, 2) != 0 || drawnPart(seed, 2) != 1) {
            seed++;
        }
        EachEye x = one("777777", SPY, 7, 7);
        is("ageing(0, 2, .., 0)", x.ageing(0, 2, seed, 0), 1);
        is("ageing(0, 2, .., 1): not behind the first year alone", x.ageing(0, 2, seed, 1), 4);
        is("ageing(0, 2, .., 2)", x.ageing(0, 2, seed, 2), seedBehind(seed, 4));
    }

    @Says(promise = 24, value = "UNKNOWN; OUTSIDE: years (1 to 60), seed (0 at least), what.")
    private static void noSuchAgeing() {
        refusesFar("ageing() of years", OUTSIDE, Edges::rich, (x, years) -> x.ageing(0, years, 1, 2), 0, 61, 62);
        refusesFar("ageing() of what", OUTSIDE, Edges::rich, (x, what) -> x.ageing(0, 1, 1, what), 3, 4);
        for (int seed : new int[] {-1, -2, Integer.MIN_VALUE, Integer.MIN_VALUE + 1}) {
            refuses("ageing() by " + seed, OUTSIDE, Edges::rich, x -> x.ageing(0, 1, seed, 0));
        }
        refusesFar("ageing()", UNKNOWN, Edges::rich, (x, who) -> x.ageing(who, 1, 0, 0), 3, 4);
        refusesFar("ageing() of four", UNKNOWN, Edges::full, (x, who) -> x.ageing(who, 60, 0, 2), 4);
        refusesFar("ageing() without a sign", UNKNOWN, Edges::unsigned, (x, who) -> x.ageing(who, 1, 0, 0), 0);
        refusesFar("ageing() with all", UNKNOWN, Edges::rich, (x, who) -> x.ageing(who, 0, -1, 3), 3);
        is("ageing() of a year by 0", rich().ageing(2, 1, 0, 2), 1406932606);
        is("ageing() of 60 years by the greatest", full().ageing(3, 60, Integer.MAX_VALUE, 2),
                seedBehind(Integer.MAX_VALUE, 120));
    }
}
