import java.lang.reflect.InvocationTargetException;
import java.lang.reflect.Method;
import java.util.Arrays;
import java.util.HashMap;
import java.util.List;
import java.util.Map;
import java.util.Random;

/** Runs of 512 calls, no more, by fixed seeds: each answer, digests among them, must be the model's. */
public final class ModelTest {
    private static final int RUNS = 1200;
    private static final int CALLS = 512;
    /** blank(), six letters and their use, each with a digest behind it. */
    private static final int CALLS_OF_SIX_DIGITS = 16;
    private static final int[] ODD = {-1, 8, 9, 60, 61, 63, 64, Integer.MIN_VALUE, Integer.MAX_VALUE};
    private static final Map<String, Method> METHODS = new HashMap<>();
    /** How many calls the object of this run has had. */
    private static int used = 0;

    public static void main(String[] args) throws IllegalAccessException {
        Due due = new Due("as the model");
        for (Method method : EachEye.class.getDeclaredMethods()) {
            METHODS.put(method.getName(), method);
        }
        for (int run = 1; run <= RUNS && !due.failed(); run++) {
            oneRun(due, run);
        }
        due.end();
    }

    private static void oneRun(Due due, int run) throws IllegalAccessException {
        Random chance = new Random(run);
        EachEye x = new EachEye();
        Model model = new Model();
        used = 0;
        int oddity = run % 4 == 0 ? 4 : 40;
        while (used < CALLS && !due.failed()) {
            if (chance.nextInt(12) == 0 && used + CALLS_OF_SIX_DIGITS <= CALLS) {
                sixDigits(due, x, model, chance, run);
                continue;
            }
            String call = someCall(chance, run % 5 == 0);
            int[] arguments = new int[Model.argumentsOf(call)];
            for (int at = 0; at < arguments.length; at++) {
                arguments[at] = chance.nextInt(oddity) == 0 ? ODD[chance.nextInt(ODD.length)] : usual(call, at, chance);
            }
            compare(due, x, model, call, arguments, run, chance);
        }
    }

    /** Seldom a sign, which takes all else away; who() and next() seldom, or, if they are asked for, often. */
    private static String someCall(Random chance, boolean asksOften) {
        List<String> calls = Model.calls();
        String call = calls.get(chance.nextInt(calls.size()));
        if (call.equals("sign") && chance.nextInt(3) != 0) {
            return "word";
        }
        if ((call.equals("who") || call.equals("next")) && !asksOften && chance.nextInt(3) != 0) {
            return "person";
        }
        return asksOften && chance.nextInt(8) == 0 ? "next" : call;
    }

    /** An argument that is mostly, but not always, such as the call takes. */
    private static int usual(String call, int at, Random chance) {
        return switch (call + at) {
            case "letter0" -> chance.nextInt(3) == 0 ? chance.nextInt(130) : '0' + chance.nextInt(9);
            case "layer0", "inkOf0" -> chance.nextInt(6);
            case "layer1" -> chance.nextInt(64);
            case "person0", "as1" -> chance.nextInt(5);
            case "about1" -> chance.nextInt(3) * 10 + chance.nextInt(7);
            case "eye1", "few0", "who0" -> chance.nextInt(2);
            case "card1" -> chance.nextInt(3) == 0 ? 0 : chance.nextInt(8);
            case "ageing1" -> chance.nextInt(62);
            case "ageing2" -> chance.nextInt(Integer.MAX_VALUE);
            case "ageing3" -> chance.nextInt(3);
            case "count0" -> chance.nextInt(10);
            case "hue0" -> chance.nextInt(7);
            case "person1", "person2", "sees1", "eye2", "ink0", "card0" -> chance.nextInt(8);
            default -> chance.nextInt(5);
        };
    }

    private static void sixDigits(Due due, EachEye x, Model model, Random chance, int run)
            throws IllegalAccessException {
        compare(due, x, model, "blank", new int[0], run, chance);
        int most = 1 + chance.nextInt(8);
        for (int i = 0; i < 6; i++) {
            compare(due, x, model, "letter", new int[] {'0' + chance.nextInt(most)}, run, chance);
        }
        String use = chance.nextInt(4) == 0 ? "sign" : "word";
        compare(due, x, model, use, use.equals("sign") ? new int[0] : new int[] {chance.nextInt(4)}, run, chance);
    }

    /** The call, and, now and then, and wherever one is left at last, digest() behind it. */
    private static void compare(Due due, EachEye x, Model model, String call, int[] arguments, int run, Random chance)
            throws IllegalAccessException {
        used++;
        String told = "run " + run + ", call " + used + ": " + call + Arrays.toString(arguments);
        try {
            Object[] given = Arrays.stream(arguments).boxed().toArray();
            long got = ((Number) METHODS.get(call).invoke(x, given)).longValue();
            due.same(told, got, model.call(call, arguments));
            if (used < CALLS && (chance.nextInt(4) == 0 || used == CALLS - 1)) {
                used++;
                due.same("digest() behind " + told, x.digest(), model.call("digest", new int[0]));
            }
        } catch (InvocationTargetException thrown) {
            due.same(told, thrown.getCause(), "an answer");
        }
    }
}
