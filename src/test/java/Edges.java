import java.util.ArrayList;
import java.util.Arrays;
import java.util.LinkedHashMap;
import java.util.List;
import java.util.Map;

/**
 * How a test of one sentence of the document is told: its promise (0 is the Description), its words, and the test.
 * The groups of such tests extend it, since classes without a package cannot import its functions.
 */
abstract class Edges {
    static final int LAST = 999999999;
    static final int MOST = Integer.MAX_VALUE;
    static final int LEAST = Integer.MIN_VALUE;
    static final boolean[] BOTH = {false, true};

    static final int LEAF = 0;
    static final int YEAR = 1;
    static final int FEAST = 2;
    static final int DAY = 3;

    private static final Map<Integer, List<String>> WORDS = new LinkedHashMap<>();
    private static String current = "";

    Edges() {
    }

    interface Test {
        void on(Monthyears x);
    }

    interface Call {
        Object on(Monthyears x);
    }

    interface CallWith {
        Object on(Monthyears x, int value);
    }

    /** The words of all tests up to now, by the promise. */
    static Map<Integer, List<String>> words() {
        return WORDS;
    }

    /** A test of these words on a new shelf. */
    static void sentence(int promise, String words, Test test) {
        WORDS.computeIfAbsent(promise, none -> new ArrayList<>()).add(words);
        current = "promise " + promise + ", '" + words + "'";
        Object thrown = Checks.answer(() -> {
            test.on(new Monthyears());
            return "nothing";
        });
        Checks.due(current + ": what the test throws", "nothing", thrown);
    }

    static void due(Object want, Object got) {
        Checks.due(current, want, got);
    }

    /** Several answers as one, with blanks between them. */
    static String told(Object... answers) {
        StringBuilder all = new StringBuilder();
        for (Object answer : answers) {
            all.append(all.length() == 0 ? "" : " ").append(answer);
        }
        return all.toString();
    }

    // ---- the shelf as a whole

    /** A shelf on which no two things of a kind are the same, and none lies as at first. */
    static Monthyears mixed() {
        Monthyears x = new Monthyears();
        x.leaf(0, 2024, 2);
        x.leaf(1, -1, 11);
        x.leaf(2, LAST, 12);
        x.leaf(3, -LAST, 1);
        x.year(0, 1900);
        x.year(1, 2000);
        x.year(2, -LAST);
        x.year(3, LAST);
        x.feast(0, 2, 29);
        x.feast(1, 4, 30);
        x.feast(2, 12, 31);
        x.feast(3, 2, 1);
        x.dayEnd(0, 0);
        x.dayAt(1, 1, 7);
        x.dayEnd(2, 2);
        x.dayAt(3, 3, 2);
        x.knock();
        return x;
    }

    /** What lies there: kind by kind place by place, and last how often one knocked. */
    static String[] lying(Monthyears x) {
        String[] things = new String[17];
        for (int place = 0; place < 4; place++) {
            things[4 * LEAF + place] = "LEAF " + x.count(place);
            things[4 * YEAR + place] = "YEAR " + x.ofYear(place, 0);
            things[4 * FEAST + place] = "FEAST " + x.ofFeast(place, 0) + " " + x.ofFeast(place, 1);
            things[4 * DAY + place] = "DAY " + x.number(place);
        }
        things[16] = "knocks " + x.house(4);
        return things;
    }

    static void leafIs(Monthyears x, int leaf, int year, int month) {
        due(told(year, month), told(x.ofLeaf(leaf, 0), x.ofLeaf(leaf, 1)));
    }

    static void feastIs(Monthyears x, int feast, int month, int day) {
        due(told(month, day), told(x.ofFeast(feast, 0), x.ofFeast(feast, 1)));
    }

    static void dayIs(Monthyears x, int day, int year, int month, int number) {
        due(told(year, month, number), told(x.ofDay(day, 0), x.ofDay(day, 1), x.ofDay(day, 2)));
    }

    // ---- calls that change nothing

    static void still(Monthyears x, Object want, Call call) {
        List<String> before = Arrays.asList(lying(x));
        Object got = Checks.answer(() -> call.on(x));
        due(want, got);
        Checks.due(current + ": what lies there behind it", before, Arrays.asList(lying(x)));
    }

    static void refused(Monthyears x, Call call) {
        still(x, -9, call);
    }

    static void noIndex(Call call) {
        still(mixed(), Checks.INDEX, call);
    }

    static void noArgument(Call call) {
        still(mixed(), Checks.ARGUMENT, call);
    }

    /** The call asks alone: whatever it answers, the shelf lies as before. */
    static void asksAlone(int promise, String words, CallWith call) {
        sentence(promise, words, none -> {
            for (int place = 0; place < 4; place++) {
                int at = place;
                still(mixed(), call.on(mixed(), at), x -> call.on(x, at));
            }
        });
    }

    // ---- bounds

    private static void lets(Call call) {
        Object got = Checks.answer(() -> call.on(mixed()));
        Checks.due(current + ": an exception where there is none due", false, got instanceof Class);
    }

    /** The call has the places 0 to 3, and none just outside or far outside. */
    static void places(int promise, String words, CallWith call) {
        sentence(promise, words, none -> {
            for (int place = 0; place < 4; place++) {
                int good = place;
                lets(x -> call.on(x, good));
            }
            for (int place : new int[] {-1, 4, MOST, LEAST}) {
                noIndex(x -> call.on(x, place));
            }
        });
    }

    /** The call has the numbers from least to most, and none just outside or far outside. */
    static void bounds(int promise, String words, int least, int most, CallWith call) {
        sentence(promise, words, none -> {
            for (int value : new int[] {least, least + 1, most - 1, most}) {
                lets(x -> call.on(x, value));
            }
            for (int value : new int[] {least - 1, most + 1, MOST, LEAST}) {
                noArgument(x -> call.on(x, value));
            }
        });
    }

    /** Each of these calls has several exceptions due, and throws the one of the place, which is named first. */
    static void placeFirst(int promise, Call... calls) {
        String words = "Throws `IndexOutOfBoundsException`";
        for (Call call : calls) {
            sentence(promise, words, none -> noIndex(call));
        }
    }

    /** The call lays another thing of this kind on its place, for each of the four, and touches nothing else. */
    static void onlyThere(int promise, String words, int kind, CallWith call) {
        sentence(promise, words, none -> {
            for (int place = 0; place < 4; place++) {
                Monthyears x = mixed();
                String[] before = lying(x);
                call.on(x, place);
                String[] after = lying(x);
                int thing = 4 * kind + place;
                Checks.due(current + ": whether it lies on the place " + place, false,
                    before[thing].equals(after[thing]));
                after[thing] = before[thing];
                Checks.due(current + ": all else", Arrays.asList(before), Arrays.asList(after));
            }
        });
    }
}
