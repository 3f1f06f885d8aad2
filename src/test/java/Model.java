import java.util.ArrayList;
import java.util.HashMap;
import java.util.HashSet;
import java.util.List;
import java.util.Map;
import java.util.Set;
import java.util.TreeMap;

/** The document once more, with texts, sets and maps, to compare long runs of calls with. */
final class Model {
    static final int NONE = -1, UNKNOWN = -101, OUTSIDE = -102, STATE = -103, FULL = -104;

    private record One(int kind, int left, int right, String told) {
        One with(int newLeft, int newRight) {
            return new One(kind, newLeft, newRight, told);
        }

        One tell(String word) {
            return new One(kind, left, right, word);
        }
    }

    private record Card(int hue, int said) { }

    private record Kept(String sign, List<One> people, int inks, List<Card> cards, int layers) { }

    private String page = "";
    private String sign = null;
    private List<One> people = new ArrayList<>();
    private List<Integer> inks = new ArrayList<>();
    private List<Card> cards = new ArrayList<>();
    private int layers = 0;
    private int signs = 0;
    private int questions = 0;
    private Kept kept = null;

    private static final Map<String, Integer> ARGUMENTS = new TreeMap<>(Map.ofEntries(
            Map.entry("letter", 1), Map.entry("blank", 0), Map.entry("fault", 0), Map.entry("sign", 0),
            Map.entry("hue", 1), Map.entry("layer", 2), Map.entry("person", 3), Map.entry("about", 2),
            Map.entry("as", 2), Map.entry("sees", 2), Map.entry("eye", 3), Map.entry("ink", 1),
            Map.entry("inkOf", 1), Map.entry("word", 1), Map.entry("unword", 1), Map.entry("differ", 2),
            Map.entry("alike", 2), Map.entry("few", 1), Map.entry("card", 2), Map.entry("forget", 0),
            Map.entry("who", 1), Map.entry("next", 0), Map.entry("ageing", 4), Map.entry("image", 0),
            Map.entry("restore", 0), Map.entry("count", 1), Map.entry("digest", 0)));

    static List<String> calls() {
        return new ArrayList<>(ARGUMENTS.keySet());
    }

    static int argumentsOf(String call) {
        return ARGUMENTS.get(call);
    }

    long call(String name, int[] a) {
        return switch (name) {
            case "letter" -> letter(a[0]);
            case "blank" -> blank();
            case "fault" -> fault();
            case "sign" -> sign();
            case "hue" -> sign == null || !in(a[0], 0, 5) ? UNKNOWN : hueOf(sign, a[0]);
            case "layer" -> layer(a[0], a[1]);
            case "person" -> person(a[0], a[1], a[2]);
            case "about" -> about(a[0], a[1]);
            case "as" -> as(a[0], a[1]);
            case "sees" -> nobody(a[0]) ? UNKNOWN : !in(a[1], 0, 7) ? OUTSIDE : seen(people.get(a[0]), a[1]);
            case "eye" -> eye(a[0], a[1], a[2]);
            case "ink" -> ink(a[0]);
            case "inkOf" -> in(a[0], 0, inks.size() - 1) ? inks.get(a[0]) : UNKNOWN;
            case "word" -> word(a[0]);
            case "unword" -> unword(a[0]);
            case "differ" -> nobody(a[0]) || nobody(a[1]) ? UNKNOWN : differ(a[0], a[1]);
            case "alike" -> nobody(a[0]) || nobody(a[1]) ? UNKNOWN : alike(a[0], a[1]);
            case "few" -> few(a[0]);
            case "card" -> card(a[0], a[1]);
            case "forget" -> forget();
            case "who" -> who(a[0]);
            case "next" -> next();
            case "ageing" -> ageing(a[0], a[1], a[2], a[3]);
            case "image" -> image();
            case "restore" -> restore();
            case "count" -> count(a[0]);
            case "digest" -> digest();
            default -> throw new IllegalArgumentException(name);
        };
    }

    private static boolean in(int number, int from, int to) {
        return number >= from && number <= to;
    }

    private boolean nobody(int person) {
        return !in(person, 0, people.size() - 1);
    }

    private static int hueOf(String text, int cell) {
        return Character.getNumericValue(text.charAt(cell));
    }

    private static int seen(One one, int hue) {
        int left = one.left & hue;
        int right = one.right & hue;
        return switch (one.kind) {
            case 0 -> left | right;
            case 1 -> (left | right) - (left & right);
            case 2 -> left & right;
            case 3 -> left == 0 ? right : left;
            default -> right;
        };
    }

    private static String read(One one, String text) {
        StringBuilder read = new StringBuilder();
        for (int cell = 0; cell < 6; cell++) {
            read.append(seen(one, hueOf(text, cell)));
        }
        return read.toString();
    }

    private static boolean isText(String letters) {
        return letters.matches("[0-7]{6}");
    }

    private int letter(int code) {
        if (!in(code, 1, 126)) {
            return OUTSIDE;
        }
        if (page.length() == 10) {
            return FULL;
        }
        page += (char) code;
        return page.length();
    }

    private int blank() {
        int had = page.length();
        page = "";
        return had;
    }

    private int fault() {
        for (int place = 0; place < page.length(); place++) {
            if (!page.substring(0, place + 1).matches("(?s)[0-7]{1,6}")) {
                return place;
            }
        }
        return page.length();
    }

    private int sign() {
        if (!isText(page)) {
            return STATE;
        }
        sign = page;
        page = "";
        people = new ArrayList<>();
        inks = new ArrayList<>();
        cards = new ArrayList<>();
        layers = 0;
        kept = null;
        signs++;
        return count(0);
    }

    private int layer(int ink, int set) {
        if (!in(ink, 0, inks.size() - 1)) {
            return UNKNOWN;
        }
        if (!in(set, 0, 63)) {
            return OUTSIDE;
        }
        String after = "";
        int changed = 0;
        for (int cell = 0; cell < 6; cell++) {
            int was = hueOf(sign, cell);
            int now = (set & 1 << cell) == 0 ? was : was | inks.get(ink);
            changed += was == now ? 0 : 1;
            after += now;
        }
        sign = after;
        layers++;
        return changed;
    }

    private int person(int kind, int left, int right) {
        if (!in(kind, 0, 4) || !in(left, 0, 7) || !in(right, 0, 7)) {
            return OUTSIDE;
        }
        if (sign == null) {
            return STATE;
        }
        if (people.size() == 4) {
            return FULL;
        }
        people.add(new One(kind, left, right, null));
        return people.size() - 1;
    }

    private int about(int person, int what) {
        if (nobody(person)) {
            return UNKNOWN;
        }
        One one = people.get(person);
        if (in(what, 10, 15)) {
            return hueOf(read(one, sign), what - 10);
        }
        if (in(what, 20, 25)) {
            return one.told == null ? NONE : hueOf(one.told, what - 20);
        }
        if (what == 3) {
            Set<Integer> asTheyAre = new HashSet<>();
            for (int hue = 0; hue < 8; hue++) {
                if (seen(one, hue) == hue) {
                    asTheyAre.add(hue);
                }
            }
            return asTheyAre.size();
        }
        return what == 0 ? one.kind : what == 1 ? one.left : what == 2 ? one.right : OUTSIDE;
    }

    private int as(int person, int kind) {
        if (nobody(person)) {
            return UNKNOWN;
        }
        if (!in(kind, 0, 4)) {
            return OUTSIDE;
        }
        int own = people.get(person).kind;
        boolean isSo = kind == 0 || kind == own || kind == 3 && own == 4;
        return isSo ? person : NONE;
    }

    private int eye(int person, int which, int eye) {
        if (nobody(person)) {
            return UNKNOWN;
        }
        if (!in(which, 0, 1) || !in(eye, 0, 7)) {
            return OUTSIDE;
        }
        One one = people.get(person);
        people.set(person, which == 0 ? one.with(eye, one.right) : one.with(one.left, eye));
        return which == 0 ? one.left : one.right;
    }

    private int ink(int hue) {
        if (!in(hue, 1, 7)) {
            return OUTSIDE;
        }
        if (sign == null) {
            return STATE;
        }
        if (inks.size() == 5) {
            return FULL;
        }
        inks.add(hue);
        return inks.size() - 1;
    }

    private int word(int person) {
        if (nobody(person)) {
            return UNKNOWN;
        }
        if (!isText(page)) {
            return STATE;
        }
        people.set(person, people.get(person).tell(page));
        page = "";
        return count(4);
    }

    private int unword(int person) {
        if (nobody(person)) {
            return UNKNOWN;
        }
        int was = people.get(person).told == null ? 0 : 1;
        people.set(person, people.get(person).tell(null));
        return was;
    }

    private int differ(int a, int b) {
        String one = read(people.get(a), sign);
        String other = read(people.get(b), sign);
        for (int cell = 0; cell < 6; cell++) {
            if (one.charAt(cell) != other.charAt(cell)) {
                return cell;
            }
        }
        return NONE;
    }

    private int alike(int a, int b) {
        int same = 0;
        for (int hue = 0; hue < 8; hue++) {
            same += seen(people.get(a), hue) == seen(people.get(b), hue) ? 1 : 0;
        }
        return same;
    }

    /** All hues that a cell may get by these inks, each on it or not. */
    private Set<Integer> reachable(int hue, int set) {
        Set<Integer> hues = new HashSet<>(Set.of(hue));
        for (int i = 0; i < inks.size(); i++) {
            if ((set & 1 << i) != 0) {
                for (int known : List.copyOf(hues)) {
                    hues.add(known | inks.get(i));
                }
            }
        }
        return hues;
    }

    private boolean suffices(int set) {
        for (int cell = 0; cell < 6; cell++) {
            int at = cell;
            boolean can = reachable(hueOf(sign, at), set).stream().anyMatch(hue -> people.stream()
                    .filter(one -> one.told != null).allMatch(one -> seen(one, hue) == hueOf(one.told, at)));
            if (!can) {
                return false;
            }
        }
        return true;
    }

    private int few(int what) {
        if (!in(what, 0, 1)) {
            return OUTSIDE;
        }
        if (sign == null) {
            return STATE;
        }
        int best = NONE;
        for (int set = 0; set < 1 << inks.size(); set++) {
            if ((best == NONE || Integer.bitCount(set) < Integer.bitCount(best)) && suffices(set)) {
                best = set;
            }
        }
        return best == NONE ? NONE : what == 0 ? Integer.bitCount(best) : best;
    }

    private int card(int hue, int said) {
        if (!in(hue, 0, 7) || !in(said, 0, 7)) {
            return OUTSIDE;
        }
        if (cards.size() == 8) {
            return FULL;
        }
        cards.add(new Card(hue, said));
        return cards.size();
    }

    private int forget() {
        int had = cards.size();
        cards = new ArrayList<>();
        return had;
    }

    private Map<Integer, One> candidates() {
        Map<Integer, One> left = new TreeMap<>();
        for (int code = 0; code < 320; code++) {
            One one = new One(code >> 6, code >> 3 & 7, code & 7, null);
            if (cards.stream().allMatch(card -> seen(one, card.hue) == card.said)) {
                left.put(code, one);
            }
        }
        return left;
    }

    private int who(int what) {
        if (!in(what, 0, 1)) {
            return OUTSIDE;
        }
        if (questions == 60) {
            return STATE;
        }
        questions++;
        Map<Integer, One> can = candidates();
        return what == 0 ? can.size() : can.isEmpty() ? NONE : can.keySet().iterator().next();
    }

    private int next() {
        if (questions == 60) {
            return STATE;
        }
        questions++;
        Map<Integer, One> can = candidates();
        int best = NONE;
        int fewest = Integer.MAX_VALUE;
        for (int hue = 0; hue < 8 && !can.isEmpty(); hue++) {
            Map<Integer, Integer> times = new HashMap<>();
            for (One one : can.values()) {
                times.merge(seen(one, hue), 1, Integer::sum);
            }
            int worst = times.values().stream().max(Integer::compare).orElse(0);
            if (worst < fewest) {
                fewest = worst;
                best = hue;
            }
        }
        return best;
    }

    private int ageing(int person, int years, int seed, int what) {
        if (nobody(person)) {
            return UNKNOWN;
        }
        if (!in(years, 1, 60) || seed < 0 || !in(what, 0, 2)) {
            return OUTSIDE;
        }
        One young = people.get(person);
        int[] eyes = {young.left, young.right};
        long now = seed;
        int first = NONE;
        for (int year = 1; year <= years; year++) {
            now = (1103515245L * now + 12345L) % 2147483648L;
            int which = (int) (now / 65536 % 2);
            now = (1103515245L * now + 12345L) % 2147483648L;
            int part = (int) (now / 65536 % 8);
            if (part <= 2 && (eyes[which] & 1 << part) != 0) {
                eyes[which] -= 1 << part;
            }
            String then = read(young.with(eyes[0], eyes[1]), sign);
            first = first == NONE && !then.equals(read(young, sign)) ? year : first;
        }
        return what == 0 ? first : what == 1 ? Integer.bitCount(eyes[0]) + Integer.bitCount(eyes[1]) : (int) now;
    }

    private int image() {
        if (sign == null) {
            return STATE;
        }
        kept = new Kept(sign, List.copyOf(people), inks.size(), List.copyOf(cards), layers);
        return people.size();
    }

    private int restore() {
        if (kept == null) {
            return STATE;
        }
        sign = kept.sign;
        people = new ArrayList<>(kept.people);
        inks = new ArrayList<>(inks.subList(0, kept.inks));
        cards = new ArrayList<>(kept.cards);
        layers = kept.layers;
        return people.size();
    }

    private int count(int what) {
        return switch (what) {
            case 0 -> sign == null ? 0 : sign.replace("0", "").length();
            case 1 -> people.size();
            case 2 -> inks.size();
            case 3 -> layers;
            case 4 -> (int) people.stream().filter(one -> one.told != null).count();
            case 5 -> cards.size();
            case 6 -> page.length();
            case 7 -> signs;
            case 8 -> questions;
            default -> OUTSIDE;
        };
    }

    private long digest() {
        List<Long> numbers = new ArrayList<>();
        if (sign != null) {
            sign.chars().forEach(digit -> numbers.add((long) digit - '0'));
            numbers.add((long) few(0));
            numbers.add((long) few(1));
        }
        for (int a = 0; a < people.size(); a++) {
            for (int what : new int[] {0, 1, 2, 3, 10, 11, 12, 13, 14, 15, 20, 21, 22, 23, 24, 25}) {
                numbers.add((long) about(a, what));
            }
            for (int b = 0; b < people.size(); b++) {
                numbers.add((long) differ(a, b));
                numbers.add((long) alike(a, b));
            }
        }
        inks.forEach(hue -> numbers.add((long) hue));
        page.chars().forEach(code -> numbers.add((long) code));
        for (int what = 0; what <= 8; what++) {
            numbers.add((long) count(what));
        }
        long h = 853;
        for (long number : numbers) {
            h = 31 * h + number;
        }
        return h;
    }
}
