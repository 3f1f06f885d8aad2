import java.lang.annotation.ElementType;
import java.lang.annotation.Retention;
import java.lang.annotation.RetentionPolicy;
import java.lang.annotation.Target;
import java.lang.reflect.InvocationTargetException;
import java.lang.reflect.Method;
import java.util.ArrayList;
import java.util.Arrays;
import java.util.Comparator;
import java.util.List;
import java.util.function.Supplier;
import java.util.function.ToIntFunction;

/** What the tests of the document's edges share: each of their methods bears the sentence that it is for. */
abstract class Edges {
    static final int NONE = -1, UNKNOWN = -101, OUTSIDE = -102, STATE = -103, FULL = -104;
    static final int PERSON = 0, ARGUER = 1, OLD = 2, WINKER = 3, SPY = 4;
    static final int RED = 1, GREEN = 2, BLUE = 4;
    /** Numbers that are outside of every range from 0 or 1 on, those that wrap into one among them. */
    static final int[] FAR = {Integer.MIN_VALUE, Integer.MIN_VALUE + 1, -256, -101, -8, -2, -1, 1000, 1 << 16,
        (1 << 16) + 1, Integer.MAX_VALUE - 1, Integer.MAX_VALUE};

    /** The promise (0: none, the sentence stands ahead of them) and the words of the document. */
    @Retention(RetentionPolicy.RUNTIME)
    @Target(ElementType.METHOD)
    @interface Says {
        int promise();

        String value();
    }

    private static Due due = new Due("");

    /** Runs the methods that bear a sentence, and ends the program with exit code 1 if one does not hold. */
    static void run(Class<?> tests) throws ReflectiveOperationException {
        boolean failed = false;
        List<Method> all = sayings(tests);
        for (Method test : all) {
            Says says = test.getAnnotation(Says.class);
            due = new Due("promise " + says.promise() + ", \"" + says.value() + "\" (" + test.getName() + ")");
            try {
                test.setAccessible(true);
                test.invoke(null);
            } catch (InvocationTargetException thrown) {
                due.same("the test", thrown.getCause(), "an end");
            }
            due.yes("it looks at something", due.looked());
            failed |= due.failed();
        }
        System.out.println(tests.getName() + ": " + all.size() + " sentences" + (failed ? ", some broken" : " hold"));
        if (failed) {
            System.exit(1);
        }
    }

    static List<Method> sayings(Class<?> tests) {
        List<Method> all = new ArrayList<>();
        for (Method method : tests.getDeclaredMethods()) {
            if (method.isAnnotationPresent(Says.class)) {
                all.add(method);
            }
        }
        all.sort(Comparator.comparingInt((Method m) -> m.getAnnotation(Says.class).promise())
                .thenComparing(Method::getName));
        return all;
    }

    static void is(String call, long got, long want) {
        due.same(call, got, want);
    }

    static EachEye page(EachEye x, String text) {
        for (int i = 0; i < text.length(); i++) {
            x.letter(text.charAt(i));
        }
        return x;
    }

    static EachEye withPage(String text) {
        return page(new EachEye(), text);
    }

    static EachEye withSign(String text) {
        EachEye x = withPage(text);
        x.sign();
        return x;
    }

    static EachEye tell(EachEye x, int person, String text) {
        page(x, text).word(person);
        return x;
    }

    static EachEye cards(EachEye x, int... hueAndSaid) {
        for (int i = 0; i + 1 < hueAndSaid.length; i += 2) {
            x.card(hueAndSaid[i], hueAndSaid[i + 1]);
        }
        return x;
    }

    /** No sign, but a page and cards. */
    static EachEye unsigned() {
        return page(cards(new EachEye(), 7, 3, 4, 0), "12x");
    }

    /** Something of all, an image among it that is unlike what is there since. The sign is 352373 at last. */
    static EachEye rich() {
        EachEye x = withSign("150372");
        x.person(WINKER, 3, 6);
        x.person(OLD, 7, 5);
        x.ink(GREEN);
        x.ink(BLUE);
        x.layer(0, 5);
        tell(x, 0, "230222");
        cards(x, 7, 3);
        x.image();
        x.person(SPY, 1, 4);
        x.ink(RED);
        x.layer(2, 48);
        x.eye(1, 0, 2);
        x.unword(0);
        tell(x, 1, "000030");
        cards(x, 3, 1);
        x.who(0);
        return page(x, "12x");
    }

    /** The same, and nothing more can come. */
    static EachEye full() {
        EachEye x = page(rich(), "7777777");
        x.person(ARGUER, 5, 1);
        x.ink(7);
        x.ink(3);
        return cards(x, 1, 1, 2, 2, 7, 3, 7, 3, 7, 3, 7, 3);
    }

    /** The same, and who() and next() were done as often as can be. */
    static EachEye asked() {
        EachEye x = full();
        while (x.count(8) < 60) {
            x.who(1);
        }
        return x;
    }

    /** The call is refused, and behind it all that can be seen is as if it had not come. */
    static void refuses(String told, int want, Supplier<EachEye> made, ToIntFunction<EachEye> call) {
        EachEye x = made.get();
        is(told, call.applyAsInt(x), want);
        due.same("what is seen behind a refused " + told, seen(x), seen(made.get()));
    }

    /** The same for each number far outside of what a call takes, and for those given. */
    static void refusesFar(String told, int want, Supplier<EachEye> made, FarCall call, int... more) {
        int[] all = Arrays.copyOf(more, more.length + FAR.length);
        System.arraycopy(FAR, 0, all, more.length, FAR.length);
        for (int far : all) {
            refuses(told + " with " + far, want, made, x -> call.answer(x, far));
        }
    }

    /** A call of which one argument is open. */
    interface FarCall {
        int answer(EachEye x, int number);
    }

    /** All that an object tells of itself, its cards, and its image, which is gone back to. */
    private static List<Long> seen(EachEye x) {
        List<Long> all = new ArrayList<>();
        look(all, x);
        all.add((long) x.restore());
        look(all, x);
        return all;
    }

    private static void look(List<Long> all, EachEye x) {
        all.add(x.digest());
        all.add((long) x.fault());
        for (int number = 0; number < 6; number++) {
            all.add((long) x.hue(number));
            all.add((long) x.inkOf(number));
            for (int what = 0; what < 3; what++) {
                all.add((long) x.about(number, what));
                all.add((long) x.ageing(number, 9, 4711, what));
            }
            all.add((long) x.about(number, 20));
        }
        for (int what = 0; what <= 8; what++) {
            all.add((long) x.count(what));
        }
        all.add((long) x.who(0));
        all.add((long) x.who(1));
        all.add((long) x.next());
    }
}
