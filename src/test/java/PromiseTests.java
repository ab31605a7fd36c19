/** Each promise of the document by its number: ordinary inputs, edges, and wrong inputs. */
public final class PromiseTests {
    private static final int LAST = 999999999;
    private static final int MOST = Integer.MAX_VALUE;
    private static final int LEAST = Integer.MIN_VALUE;

    private static Monthyears shelf = new Monthyears();

    public static void main(String[] arguments) {
        leavesComeToBe();
        yearsComeToBe();
        feastsComeToBe();
        daysComeToBe();
        leavesAreAsked();
        yearsAreAsked();
        feastsAndDaysAreAsked();
        theHouse();
        Checks.end("PromiseTests");
    }

    private interface Call {
        Object on(Monthyears shelf);
    }

    private static void fresh() {
        shelf = new Monthyears();
    }

    private static void due(int promise, Object want, Call call) {
        Checks.due("promise " + promise + ": a call", want, Checks.answer(() -> call.on(shelf)));
    }

    /** The call is refused or throws, and nothing lies otherwise behind it. */
    private static void still(int promise, Object want, Call call) {
        // The digest takes in all that lies there, with one of the 512 calls that an object has.
        long before = shelf.digest();
        due(promise, want, call);
        Checks.due("promise " + promise + ": what lies there behind a refused call", before, shelf.digest());
    }

    private static void thrown(int promise, Object want, Call call) {
        Monthyears kept = shelf;
        shelf = Edges.mixed();
        still(promise, want, call);
        shelf = kept;
    }

    private static void wrongIndex(int promise, Call call) {
        thrown(promise, Checks.INDEX, call);
    }

    private static void wrongArgument(int promise, Call call) {
        thrown(promise, Checks.ARGUMENT, call);
    }

    private interface OfPlace {
        Object on(Monthyears shelf, int place);
    }

    private static void needsPlace(int promise, OfPlace call) {
        for (int place : new int[] {-1, 4, MOST, LEAST}) {
            wrongIndex(promise, x -> call.on(x, place));
        }
        for (int place = 0; place < 4; place++) {
            int good = place;
            Object got = Checks.answer(() -> call.on(new Monthyears(), good));
            Checks.due("promise " + promise + ": an exception on the place " + place, false, got instanceof Class);
        }
    }

    /** The call lets the numbers from least to most and throws for those just beyond, and far beyond. */
    private static void needsWithin(int promise, int least, int most, OfPlace call) {
        for (int value : new int[] {least - 1, most + 1, MOST, LEAST}) {
            wrongArgument(promise, x -> call.on(x, value));
        }
        for (int value : new int[] {least, most}) {
            Object got = Checks.answer(() -> call.on(new Monthyears(), value));
            Checks.due("promise " + promise + ": an exception for " + value, false, got instanceof Class);
        }
    }

    private static void leafIs(int promise, int leaf, int year, int month) {
        due(promise, year, x -> x.ofLeaf(leaf, 0));
        due(promise, month, x -> x.ofLeaf(leaf, 1));
    }

    private static void feastIs(int promise, int feast, int month, int day) {
        due(promise, month, x -> x.ofFeast(feast, 0));
        due(promise, day, x -> x.ofFeast(feast, 1));
    }

    private static void dayIs(int promise, int day, int year, int month, int number) {
        due(promise, year, x -> x.ofDay(day, 0));
        due(promise, month, x -> x.ofDay(day, 1));
        due(promise, number, x -> x.ofDay(day, 2));
    }

    private static void leavesComeToBe() {
        fresh();
        promise1();
        promise2();
        promise3();
        promise4();
        promise5();
        promise6();
        promise7();
        promises8And9();
        promise10();
        promises11To14();
    }

    private static void promise1() {
        for (int place = 0; place < 4; place++) {
            int at = place;
            leafIs(1, at, 0, 1);
            due(1, "0", x -> x.count(at));
            due(1, 0, x -> x.ofYear(at, 0));
            feastIs(1, at, 1, 1);
            dayIs(1, at, 0, 1, 1);
            due(1, "-719528", x -> x.number(at));
        }
        due(1, 0, x -> x.house(4));
    }

    private static void promise2() {
        int[] lengths = {31, 28, 31, 30, 31, 30, 31, 31, 30, 31, 30, 31};
        for (int month = 1; month <= 12; month++) {
            int told = month;
            due(2, lengths[month - 1], x -> x.leaf(3, 2023, told));
            leafIs(2, 3, 2023, month);
        }
        for (int year : new int[] {2024, 2000, 0, -4, -400, 999999600}) {
            due(2, 29, x -> x.leaf(0, year, 2));
        }
        for (int year : new int[] {1900, 2100, -100, -1, -2, LAST, -LAST}) {
            due(2, 28, x -> x.leaf(0, year, 2));
        }
        leafIs(2, 1, 0, 1);
        needsPlace(2, (x, place) -> x.leaf(place, 2023, 5));
        wrongIndex(2, x -> x.leaf(4, LAST + 1, 13));
        needsWithin(2, -LAST, LAST, (x, year) -> x.leaf(0, year, 1));
        needsWithin(2, 1, 12, (x, month) -> x.leaf(0, 1, month));
    }

    private static void promise3() {
        int[][] months = {{0, 1}, {1, 2}, {11, 12}, {12, 1}, {13, 2}, {-1, 12}, {-11, 2}, {-12, 1}, {-13, 12},
            {MOST, 8}, {LEAST, 5}};
        for (int[] told : months) {
            due(3, told[1], x -> x.leafRound(1, 1900, told[0]));
            leafIs(3, 1, 1900, told[1]);
        }
        needsPlace(3, (x, place) -> x.leafRound(place, 1900, 3));
        wrongIndex(3, x -> x.leafRound(-1, LAST + 1, 3));
        needsWithin(3, -LAST, LAST, (x, year) -> x.leafRound(0, year, -1));
    }

    private static void promise4() {
        fresh();
        due(4, 31, x -> x.months(0, -1, false));
        leafIs(4, 0, -1, 12);
        due(4, 29, x -> x.months(0, -2, true));
        leafIs(4, 0, 0, 2);
        due(4, 31, x -> x.months(0, 2, true));
        leafIs(4, 0, -1, 12);
        due(4, 31, x -> x.months(0, 0, true));
        due(4, 31, x -> x.leaf(1, LAST, 12));
        still(4, -9, x -> x.months(1, 1, false));
        still(4, -9, x -> x.months(1, -1, true));
        still(4, -9, x -> x.months(1, LEAST, true));
        due(4, 30, x -> x.months(1, LEAST, false));
        due(4, "9852516351", x -> x.count(1));
        due(4, 31, x -> x.months(1, LEAST, true));
        due(4, "11999999999", x -> x.count(1));
        due(4, 31, x -> x.leaf(1, -LAST, 1));
        still(4, -9, x -> x.months(1, 1, true));
        still(4, -9, x -> x.months(1, MOST, true));
        due(4, 31, x -> x.months(1, 0, false));
        due(4, "-11999999988", x -> x.count(1));
        needsPlace(4, (x, place) -> x.months(place, 1, false));
    }

    private static void promise5() {
        fresh();
        due(5, 29, x -> x.leaf(0, 2024, 2));
        due(5, 28, x -> x.years(0, 1, false));
        leafIs(5, 0, 2025, 2);
        due(5, 29, x -> x.years(0, 25, true));
        leafIs(5, 0, 2000, 2);
        due(5, 29, x -> x.years(0, -8, true));
        leafIs(5, 0, 2008, 2);
        due(5, 28, x -> x.years(0, LAST - 2008, false));
        still(5, -9, x -> x.years(0, 1, false));
        still(5, -9, x -> x.years(0, MOST, false));
        still(5, -9, x -> x.years(0, LEAST, false));
        still(5, -9, x -> x.years(0, LEAST, true));
        due(5, 28, x -> x.years(0, 2 * LAST, true));
        leafIs(5, 0, -LAST, 2);
        still(5, -9, x -> x.years(0, -1, false));
        needsPlace(5, (x, place) -> x.years(place, 1, true));
    }

    private static void promise6() {
        int[][] steps = {{0, 0, 4, 30}, {1, 3, 1, 31}, {2, 30, 1, 31}, {3, 300, 1, 31}, {4, 3000, 1, 31}};
        for (int[] step : steps) {
            fresh();
            due(6, step[3], x -> x.units(2, step[0], 3, false));
            leafIs(6, 2, step[1], step[2]);
            due(6, 31, x -> x.units(2, step[0], 3, true));
            leafIs(6, 2, 0, 1);
        }
        due(6, 31, x -> x.units(2, 0, -1, false));
        leafIs(6, 2, -1, 12);
        due(6, 31, x -> x.units(2, 2, -2, true));
        leafIs(6, 2, 19, 12);
        due(6, 31, x -> x.units(2, 4, 999999, false));
        leafIs(6, 2, 999999019, 12);
        still(6, -9, x -> x.units(2, 4, 1, false));
        still(6, -9, x -> x.units(2, 3, 10, false));
        due(6, 31, x -> x.units(2, 3, 9, false));
        for (int unit = 1; unit <= 4; unit++) {
            int told = unit;
            still(6, -9, x -> x.units(2, told, MOST, false));
            still(6, -9, x -> x.units(2, told, LEAST, true));
            still(6, -9, x -> x.units(2, told, LEAST, false));
        }
        due(6, 31, x -> x.units(2, 0, LEAST + 1, false));
        leafIs(6, 2, 821042949, 5);
        needsPlace(6, (x, place) -> x.units(place, 1, 1, false));
        wrongIndex(6, x -> x.units(4, 5, 1, false));
        needsWithin(6, 0, 4, (x, unit) -> x.units(0, unit, 1, false));
    }

    private static void promise7() {
        fresh();
        due(7, 31, x -> x.both(0, 2, -1, false));
        leafIs(7, 0, 1, 12);
        due(7, 30, x -> x.both(0, 1, 1, true));
        leafIs(7, 0, 0, 11);
        due(7, 31, x -> x.leaf(1, LAST, 12));
        due(7, 31, x -> x.both(1, 1, -12, false));
        due(7, "11999999999", x -> x.count(1));
        due(7, 31, x -> x.both(1, -1, 12, true));
        due(7, "11999999999", x -> x.count(1));
        still(7, -9, x -> x.both(1, 1, -11, false));
        still(7, -9, x -> x.both(1, -1, 11, true));
        due(7, 31, x -> x.both(1, 99999999, -99999999, true));
        due(7, "10900000010", x -> x.count(1));
        due(7, 31, x -> x.leaf(1, -LAST, 1));
        still(7, -9, x -> x.both(1, -99999999, -99999999, false));
        still(7, -9, x -> x.both(1, 0, 1, true));
        needsPlace(7, (x, place) -> x.both(place, 1, 1, false));
        wrongIndex(7, x -> x.both(-1, 100000000, 0, false));
        needsWithin(7, -99999999, 99999999, (x, years) -> x.both(0, years, 0, false));
        needsWithin(7, -99999999, 99999999, (x, months) -> x.both(0, 0, months, true));
    }

    private static void promises8And9() {
        fresh();
        due(2, 29, x -> x.leaf(0, 2024, 2));
        due(8, 2024, x -> x.leafYear(0, 1900));
        leafIs(8, 0, 1900, 2);
        due(8, 1900, x -> x.leafYear(0, -LAST));
        due(8, -LAST, x -> x.leafYear(0, LAST));
        leafIs(8, 0, LAST, 2);
        needsPlace(8, (x, place) -> x.leafYear(place, 5));
        wrongIndex(8, x -> x.leafYear(4, LAST + 1));
        needsWithin(8, -LAST, LAST, (x, year) -> x.leafYear(0, year));
        due(9, 2, x -> x.leafMonth(0, 12));
        leafIs(9, 0, LAST, 12);
        due(9, 12, x -> x.leafMonth(0, 1));
        due(9, 1, x -> x.leafMonth(0, 1));
        leafIs(9, 0, LAST, 1);
        needsPlace(9, (x, place) -> x.leafMonth(place, 5));
        wrongIndex(9, x -> x.leafMonth(4, 13));
        needsWithin(9, 1, 12, (x, month) -> x.leafMonth(0, month));
    }

    private static void promise10() {
        fresh();
        due(10, 29, x -> x.leafWith(0, 0, 2));
        due(10, 28, x -> x.leafWith(0, 1, 2023));
        leafIs(10, 0, 2023, 2);
        due(10, 29, x -> x.leafWith(0, 2, 2024));
        leafIs(10, 0, 2024, 2);
        due(10, 28, x -> x.leafWith(0, 3, 0));
        leafIs(10, 0, -2023, 2);
        due(10, 28, x -> x.leafWith(0, 3, 0));
        leafIs(10, 0, -2023, 2);
        due(10, 29, x -> x.leafWith(0, 2, 5));
        leafIs(10, 0, -4, 2);
        due(10, 28, x -> x.leafWith(0, 3, 1));
        leafIs(10, 0, 5, 2);
        due(10, 31, x -> x.leafWith(0, 4, -1));
        leafIs(10, 0, -1, 12);
        due(10, 31, x -> x.leafWith(0, 4, MOST));
        due(10, "2147483647", x -> x.count(0));
        due(10, 31, x -> x.leafWith(0, 4, LEAST));
        due(10, "-2147483648", x -> x.count(0));
        due(10, 31, x -> x.leafWith(0, 1, -LAST));
        still(10, -9, x -> x.leafWith(0, 3, 1));
        due(10, 31, x -> x.leafWith(0, 3, 0));
        leafIs(10, 0, -LAST, 5);
        due(10, 31, x -> x.leafWith(0, 2, LAST));
        leafIs(10, 0, 1 - LAST, 5);
        due(10, 31, x -> x.leafWith(0, 3, 1));
        leafIs(10, 0, LAST, 5);
        needsPlace(10, (x, place) -> x.leafWith(place, 0, 5));
        wrongIndex(10, x -> x.leafWith(4, 5, 0));
        needsWithin(10, 0, 4, (x, what) -> x.leafWith(0, what, 1));
        needsWithin(10, 1, 12, (x, value) -> x.leafWith(0, 0, value));
        needsWithin(10, -LAST, LAST, (x, value) -> x.leafWith(0, 1, value));
        needsWithin(10, 1, LAST, (x, value) -> x.leafWith(0, 2, value));
        needsWithin(10, 0, 1, (x, value) -> x.leafWith(0, 3, value));
    }

    private static void promises11To14() {
        fresh();
        due(15, 366, x -> x.year(3, 2024));
        due(11, 29, x -> x.leafOf(1, 3, 2));
        leafIs(11, 1, 2024, 2);
        due(11, 31, x -> x.leafOf(1, 2, 12));
        leafIs(11, 1, 0, 12);
        needsPlace(11, (x, place) -> x.leafOf(place, 0, 5));
        needsPlace(11, (x, place) -> x.leafOf(0, place, 5));
        wrongIndex(11, x -> x.leafOf(0, 4, 13));
        needsWithin(11, 1, 12, (x, month) -> x.leafOf(0, 3, month));

        due(12, 12, x -> x.leafOfRound(0, 3, -1));
        leafIs(12, 0, 2024, 12);
        due(12, 2, x -> x.leafOfRound(0, 3, 25));
        leafIs(12, 0, 2024, 2);
        due(12, 5, x -> x.leafOfRound(0, 3, LEAST));
        due(12, 8, x -> x.leafOfRound(0, 3, MOST));
        needsPlace(12, (x, place) -> x.leafOfRound(place, 0, 5));
        needsPlace(12, (x, place) -> x.leafOfRound(0, place, 5));

        due(29, 2, x -> x.dayInYear(2, 3, 60));
        due(13, 29, x -> x.leafOfDay(3, 2));
        leafIs(13, 3, 2024, 2);
        due(13, 31, x -> x.leafOfDay(3, 0));
        leafIs(13, 3, 0, 1);
        needsPlace(13, (x, place) -> x.leafOfDay(place, 0));
        needsPlace(13, (x, place) -> x.leafOfDay(0, place));

        due(14, 0, x -> x.leafLike(3, 0));
        leafIs(14, 3, 2024, 8);
        leafIs(14, 0, 2024, 8);
        due(14, 1, x -> x.leafLike(3, 0));
        due(14, 1, x -> x.leafLike(1, 1));
        due(14, 0, x -> x.leafLike(0, 1));
        leafIs(14, 0, 0, 12);
        needsPlace(14, (x, place) -> x.leafLike(place, 0));
        needsPlace(14, (x, place) -> x.leafLike(0, place));
    }

    private static void yearsComeToBe() {
        fresh();
        promise15();
        promises16And17();
        promise18();
        promises19And20();
    }

    private static void promise15() {
        int[][] years = {{2023, 365}, {2024, 366}, {1900, 365}, {2000, 366}, {0, 366}, {-1, 365}, {-4, 366},
            {-100, 365}, {-400, 366}, {LAST, 365}, {-LAST, 365}};
        for (int[] told : years) {
            due(15, told[1], x -> x.year(2, told[0]));
            due(15, told[0], x -> x.ofYear(2, 0));
        }
        due(15, 0, x -> x.ofYear(1, 0));
        needsPlace(15, (x, place) -> x.year(place, 5));
        wrongIndex(15, x -> x.year(4, LAST + 1));
        needsWithin(15, -LAST, LAST, (x, number) -> x.year(0, number));
    }

    private static void promises16And17() {
        fresh();
        due(16, 365, x -> x.later(0, 3, false));
        due(16, 365, x -> x.later(0, 4, true));
        due(16, -1, x -> x.ofYear(0, 0));
        due(16, 366, x -> x.later(0, -5, true));
        due(16, 4, x -> x.ofYear(0, 0));
        due(16, 365, x -> x.later(0, LAST - 4, false));
        still(16, -9, x -> x.later(0, 1, false));
        still(16, -9, x -> x.later(0, MOST, false));
        still(16, -9, x -> x.later(0, LEAST, true));
        due(16, 365, x -> x.later(0, 2 * LAST, true));
        due(16, -LAST, x -> x.ofYear(0, 0));
        still(16, -9, x -> x.later(0, -1, false));
        still(16, -9, x -> x.later(0, LEAST, true));
        still(16, -9, x -> x.later(0, LEAST, false));
        needsPlace(16, (x, place) -> x.later(place, 1, false));

        int[] sizes = {0, 1, 10, 100, 1000};
        for (int unit = 1; unit <= 4; unit++) {
            int told = unit;
            fresh();
            due(17, 366, x -> x.yearUnits(1, told, 4, false));
            due(17, 4 * sizes[unit], x -> x.ofYear(1, 0));
            due(17, 366, x -> x.yearUnits(1, told, -4, false));
            due(17, 0, x -> x.ofYear(1, 0));
            due(17, 366, x -> x.yearUnits(1, told, 4, true));
            due(17, -4 * sizes[unit], x -> x.ofYear(1, 0));
            due(17, 365, x -> x.year(1, LAST - sizes[told]));
            due(17, 365, x -> x.yearUnits(1, told, -1, true));
            due(17, LAST, x -> x.ofYear(1, 0));
            still(17, -9, x -> x.yearUnits(1, told, 1, false));
            still(17, -9, x -> x.yearUnits(1, told, MOST, false));
            still(17, -9, x -> x.yearUnits(1, told, LEAST, false));
            still(17, -9, x -> x.yearUnits(1, told, LEAST, true));
            due(17, 365, x -> x.year(1, -LAST));
            still(17, -9, x -> x.yearUnits(1, told, 1, true));
        }
        needsPlace(17, (x, place) -> x.yearUnits(place, 1, 1, false));
        wrongIndex(17, x -> x.yearUnits(4, 0, 1, false));
        needsWithin(17, 1, 4, (x, unit) -> x.yearUnits(0, unit, 1, false));
    }

    private static void promise18() {
        fresh();
        due(18, 366, x -> x.yearWith(0, 0, 2024));
        due(18, 365, x -> x.yearWith(0, 1, 5));
        due(18, 5, x -> x.ofYear(0, 0));
        due(18, 366, x -> x.yearWith(0, 2, 0));
        due(18, -4, x -> x.ofYear(0, 0));
        due(18, 366, x -> x.yearWith(0, 2, 0));
        due(18, 366, x -> x.yearWith(0, 1, 1));
        due(18, 0, x -> x.ofYear(0, 0));
        due(18, 365, x -> x.yearWith(0, 2, 1));
        due(18, 1, x -> x.ofYear(0, 0));
        due(18, 365, x -> x.yearWith(0, 0, -LAST));
        still(18, -9, x -> x.yearWith(0, 2, 1));
        due(18, 365, x -> x.yearWith(0, 2, 0));
        due(18, 365, x -> x.yearWith(0, 1, LAST));
        due(18, 1 - LAST, x -> x.ofYear(0, 0));
        due(18, 365, x -> x.yearWith(0, 2, 1));
        due(18, LAST, x -> x.ofYear(0, 0));
        needsPlace(18, (x, place) -> x.yearWith(place, 0, 5));
        wrongIndex(18, x -> x.yearWith(4, 3, 0));
        needsWithin(18, 0, 2, (x, what) -> x.yearWith(0, what, 1));
        needsWithin(18, -LAST, LAST, (x, value) -> x.yearWith(0, 0, value));
        needsWithin(18, 1, LAST, (x, value) -> x.yearWith(0, 1, value));
        needsWithin(18, 0, 1, (x, value) -> x.yearWith(0, 2, value));
    }

    private static void promises19And20() {
        fresh();
        due(2, 31, x -> x.leaf(1, -1, 12));
        due(28, 31, x -> x.dayEnd(1, 1));
        due(2, 30, x -> x.leaf(1, 2023, 4));
        due(19, 365, x -> x.yearOf(2, false, 1));
        due(19, 2023, x -> x.ofYear(2, 0));
        due(19, 365, x -> x.yearOf(2, true, 1));
        due(19, -1, x -> x.ofYear(2, 0));
        due(19, 366, x -> x.yearOf(2, true, 0));
        due(19, 0, x -> x.ofYear(2, 0));
        for (boolean isDay : new boolean[] {false, true}) {
            needsPlace(19, (x, place) -> x.yearOf(place, isDay, 0));
            needsPlace(19, (x, place) -> x.yearOf(0, isDay, place));
        }
        due(15, 366, x -> x.year(1, 2024));
        due(20, 0, x -> x.yearLike(3, 1));
        due(20, 2024, x -> x.ofYear(3, 0));
        due(20, 2024, x -> x.ofYear(1, 0));
        due(20, 1, x -> x.yearLike(3, 1));
        due(20, 1, x -> x.yearLike(3, 3));
        needsPlace(20, (x, place) -> x.yearLike(place, 0));
        needsPlace(20, (x, place) -> x.yearLike(0, place));
    }

    private static void feastsComeToBe() {
        fresh();
        promises21And22();
        promises23And24();
        promises25And26();
    }

    private static void promises21And22() {
        int[] mostDays = {31, 29, 31, 30, 31, 30, 31, 31, 30, 31, 30, 31};
        for (int month = 1; month <= 12; month++) {
            int told = month;
            int most = mostDays[month - 1];
            due(21, month == 2 ? 0 : 1, x -> x.feast(3, told, most));
            feastIs(21, 3, month, most);
            due(22, month, x -> x.feastRound(3, told - 13, most));
            feastIs(22, 3, month, most);
            due(21, 1, x -> x.feast(3, told, 1));
            for (int day = most + 1; day <= 31; day++) {
                int beyond = day;
                still(21, -9, x -> x.feast(3, told, beyond));
                still(22, -9, x -> x.feastRound(3, told + 11, beyond));
            }
        }
        due(21, 1, x -> x.feast(0, 2, 28));
        feastIs(21, 1, 1, 1);
        needsPlace(21, (x, place) -> x.feast(place, 5, 5));
        wrongIndex(21, x -> x.feast(4, 13, 32));
        needsWithin(21, 1, 12, (x, month) -> x.feast(0, month, 5));
        needsWithin(21, 1, 31, (x, day) -> x.feast(0, 1, day));
        wrongArgument(21, x -> x.feast(0, 2, 32));

        due(22, 5, x -> x.feastRound(0, LEAST, 31));
        due(22, 8, x -> x.feastRound(0, MOST, 31));
        due(22, 12, x -> x.feastRound(0, -1, 30));
        feastIs(22, 0, 12, 30);
        needsPlace(22, (x, place) -> x.feastRound(place, 5, 5));
        wrongIndex(22, x -> x.feastRound(4, 5, 0));
        needsWithin(22, 1, 31, (x, day) -> x.feastRound(0, 12, day));
        wrongArgument(22, x -> x.feastRound(0, 1, 32));
    }

    private static void promises23And24() {
        for (boolean isField : new boolean[] {false, true}) {
            fresh();
            due(21, 1, x -> x.feast(2, 12, 31));
            due(23, 31, x -> x.feastMonth(2, 1, isField));
            due(23, 30, x -> x.feastMonth(2, 4, isField));
            feastIs(23, 2, 4, 30);
            due(23, 29, x -> x.feastMonth(2, 2, isField));
            feastIs(23, 2, 2, 29);
            due(23, 29, x -> x.feastMonth(2, 3, isField));
            feastIs(23, 2, 3, 29);
            needsPlace(23, (x, place) -> x.feastMonth(place, 5, isField));
            wrongIndex(23, x -> x.feastMonth(4, 13, isField));
            needsWithin(23, 1, 12, (x, month) -> x.feastMonth(0, month, isField));

            due(24, 29, x -> x.feastDay(2, 31, isField));
            due(24, 31, x -> x.feastDay(2, 7, isField));
            feastIs(24, 2, 3, 7);
            due(23, 7, x -> x.feastMonth(2, 11, isField));
            still(24, -9, x -> x.feastDay(2, 31, isField));
            due(24, 7, x -> x.feastDay(2, 30, isField));
            due(23, 29, x -> x.feastMonth(2, 2, isField));
            still(24, -9, x -> x.feastDay(2, 30, isField));
            due(24, 29, x -> x.feastDay(2, 29, isField));
            needsPlace(24, (x, place) -> x.feastDay(place, 5, isField));
            wrongIndex(24, x -> x.feastDay(4, 32, isField));
            needsWithin(24, 1, 31, (x, day) -> x.feastDay(0, day, isField));
            wrongArgument(24, x -> x.feastDay(2, 32, isField));
        }
    }

    private static void promises25And26() {
        fresh();
        due(2, 29, x -> x.leaf(0, 2024, 2));
        due(28, 29, x -> x.dayEnd(1, 0));
        due(25, 0, x -> x.feastOf(3, 1));
        feastIs(25, 3, 2, 29);
        due(27, 3, x -> x.dayAt(2, 0, 28));
        due(25, 1, x -> x.feastOf(3, 2));
        feastIs(25, 3, 2, 28);
        due(25, 1, x -> x.feastOf(3, 0));
        feastIs(25, 3, 1, 1);
        needsPlace(25, (x, place) -> x.feastOf(place, 0));
        needsPlace(25, (x, place) -> x.feastOf(0, place));

        due(21, 1, x -> x.feast(1, 1, 2));
        due(21, 1, x -> x.feast(2, 2, 1));
        due(26, 0, x -> x.feastLike(0, 1));
        feastIs(26, 0, 1, 2);
        feastIs(26, 1, 1, 2);
        due(26, 1, x -> x.feastLike(0, 1));
        due(26, 0, x -> x.feastLike(3, 2));
        feastIs(26, 3, 2, 1);
        due(26, 0, x -> x.feastLike(3, 1));
        due(26, 1, x -> x.feastLike(2, 2));
        needsPlace(26, (x, place) -> x.feastLike(place, 0));
        needsPlace(26, (x, place) -> x.feastLike(0, place));
    }

    private static void daysComeToBe() {
        fresh();
        due(2, 31, x -> x.leaf(0, 1970, 1));
        due(27, 4, x -> x.dayAt(3, 0, 1));
        dayIs(27, 3, 1970, 1, 1);
        due(27, 6, x -> x.dayAt(3, 0, 31));
        due(2, 28, x -> x.leaf(1, 2023, 2));
        still(27, -9, x -> x.dayAt(3, 1, 29));
        due(27, 2, x -> x.dayAt(3, 1, 28));
        due(2, 30, x -> x.leaf(1, 2023, 6));
        still(27, -9, x -> x.dayAt(3, 1, 31));
        due(27, 5, x -> x.dayAt(3, 1, 30));
        needsPlace(27, (x, place) -> x.dayAt(place, 0, 5));
        needsPlace(27, (x, place) -> x.dayAt(0, place, 5));
        wrongIndex(27, x -> x.dayAt(0, 4, 32));
        needsWithin(27, 1, 31, (x, number) -> x.dayAt(0, 0, number));
        wrongArgument(27, x -> x.dayAt(0, 1, 32));

        due(28, 31, x -> x.dayEnd(0, 0));
        dayIs(28, 0, 1970, 1, 31);
        due(28, 30, x -> x.dayEnd(0, 1));
        dayIs(28, 0, 2023, 6, 30);
        needsPlace(28, (x, place) -> x.dayEnd(place, 0));
        needsPlace(28, (x, place) -> x.dayEnd(0, place));
        promise29();
        promises30And31();
    }

    private static void promise29() {
        int[] lengths = {31, 28, 31, 30, 31, 30, 31, 31, 30, 31, 30, 31};
        due(15, 365, x -> x.year(1, 2023));
        due(15, 366, x -> x.year(2, 2024));
        for (int year = 1; year <= 2; year++) {
            int of = year;
            int number = 2022 + year;
            int place = 0;
            for (int month = 1; month <= 12; month++) {
                int told = month;
                int first = place + 1;
                place += lengths[month - 1] + (month == 2 && year == 2 ? 1 : 0);
                int last = place;
                due(29, told, x -> x.dayInYear(0, of, first));
                dayIs(29, 0, number, month, 1);
                due(29, told, x -> x.dayInYear(0, of, last));
                dayIs(29, 0, number, month, last - first + 1);
            }
        }
        still(29, -9, x -> x.dayInYear(0, 1, 366));
        due(29, 12, x -> x.dayInYear(0, 2, 366));
        needsPlace(29, (x, place) -> x.dayInYear(place, 0, 5));
        needsPlace(29, (x, place) -> x.dayInYear(0, place, 5));
        wrongIndex(29, x -> x.dayInYear(0, 4, 367));
        needsWithin(29, 1, 366, (x, place) -> x.dayInYear(0, 0, place));
        wrongArgument(29, x -> x.dayInYear(0, 1, 367));
    }

    private static void promises30And31() {
        due(21, 0, x -> x.feast(3, 2, 29));
        due(30, 2, x -> x.dayOfFeast(1, 3, 2023));
        dayIs(30, 1, 2023, 2, 28);
        due(30, 4, x -> x.dayOfFeast(1, 3, 2024));
        dayIs(30, 1, 2024, 2, 29);
        due(21, 1, x -> x.feast(2, 12, 31));
        due(30, 5, x -> x.dayOfFeast(1, 2, LAST));
        due(30, "365241780471", x -> x.number(1));
        due(30, 1, x -> x.dayOfFeast(1, 0, -LAST));
        due(30, "-365243219162", x -> x.number(1));
        needsPlace(30, (x, place) -> x.dayOfFeast(place, 0, 5));
        needsPlace(30, (x, place) -> x.dayOfFeast(0, place, 5));
        wrongIndex(30, x -> x.dayOfFeast(0, 4, LAST + 1));
        needsWithin(30, -LAST, LAST, (x, number) -> x.dayOfFeast(0, 0, number));

        due(31, 28, x -> x.dayOfYear(0, 1, 3));
        dayIs(31, 0, 2023, 2, 28);
        due(31, 29, x -> x.dayOfYear(0, 2, 3));
        dayIs(31, 0, 2024, 2, 29);
        due(31, 31, x -> x.dayOfYear(0, 2, 2));
        dayIs(31, 0, 2024, 12, 31);
        needsPlace(31, (x, place) -> x.dayOfYear(place, 0, 0));
        needsPlace(31, (x, place) -> x.dayOfYear(0, place, 0));
        needsPlace(31, (x, place) -> x.dayOfYear(0, 0, place));
    }

    private static void leavesAreAsked() {
        fresh();
        due(2, 29, x -> x.leaf(0, 2024, 2));
        due(2, 30, x -> x.leaf(1, -1, 11));
        due(2, 31, x -> x.leaf(2, -LAST, 1));
        due(2, 31, x -> x.leaf(3, LAST, 12));
        int[][] told = {{2024, 2, 29, 366, 1, 2, 2024, 1}, {-1, 11, 30, 365, 0, 11, 2, 0},
            {-LAST, 1, 31, 365, 0, 1, LAST + 1, 0}, {LAST, 12, 31, 365, 0, 12, LAST, 1}};
        for (int leaf = 0; leaf < 4; leaf++) {
            int at = leaf;
            for (int what = 0; what <= 7; what++) {
                int asked = what;
                due(32, told[leaf][what], x -> x.ofLeaf(at, asked));
            }
        }
        needsPlace(32, (x, place) -> x.ofLeaf(place, 0));
        wrongIndex(32, x -> x.ofLeaf(4, 8));
        needsWithin(32, 0, 7, (x, what) -> x.ofLeaf(0, what));

        String[] counts = {"24289", "-2", "-11999999988", "11999999999"};
        for (int leaf = 0; leaf < 4; leaf++) {
            int at = leaf;
            due(33, counts[leaf], x -> x.count(at));
        }
        needsPlace(33, (x, place) -> x.count(place));

        int[][] days = {{0, 1, 1}, {0, 28, 1}, {0, 29, 1}, {0, 30, 0}, {0, 0, 0}, {0, -1, 0}, {0, MOST, 0},
            {0, LEAST, 0}, {1, 30, 1}, {1, 31, 0}, {2, 31, 1}, {2, 32, 0}};
        for (int[] day : days) {
            due(34, day[2] == 1, x -> x.hasDay(day[0], day[1]));
        }
        needsPlace(34, (x, place) -> x.hasDay(place, 1));
        orders(35, new int[] {2, 1, 0, 3}, (x, one, other, what) -> x.leafOrder(one, other, what));
        sameness(36, 0, (x, one, what, other) -> x.isLeaf(one, what, other), x -> x.leafLike(1, 0));
        promise37();
    }

    private interface OfThree {
        Object on(Monthyears shelf, int one, int two, int three);
    }

    /** The places are told from the first thing to the last one, and no two of them are the same. */
    private static void orders(int promise, int[] places, OfThree call) {
        for (int one = 0; one < 4; one++) {
            for (int other = 0; other < 4; other++) {
                int first = places[one];
                int second = places[other];
                due(promise, Integer.compare(one, other), x -> call.on(x, first, second, 0));
                due(promise, one < other ? 1 : 0, x -> call.on(x, first, second, 1));
                due(promise, one > other ? 1 : 0, x -> call.on(x, first, second, 2));
            }
        }
        needsPlace(promise, (x, place) -> call.on(x, place, 0, 0));
        needsPlace(promise, (x, place) -> call.on(x, 0, place, 0));
        wrongIndex(promise, x -> call.on(x, 0, 4, 3));
        needsWithin(promise, 0, 2, (x, what) -> call.on(x, 0, 1, what));
    }

    /** The things on the places 0 and 1 differ until they are made alike. */
    private static void sameness(int promise, int kind, OfThree call, Call alike) {
        due(promise, false, x -> call.on(x, 1, kind, 0));
        Checks.answer(() -> alike.on(shelf));
        due(promise, true, x -> call.on(x, 1, kind, 0));
        for (int what = 0; what <= 4; what++) {
            int asked = what;
            due(promise, what == kind, x -> call.on(x, 1, asked, 1));
            wrongIndex(promise, x -> call.on(x, 4, asked, 0));
            wrongIndex(promise, x -> call.on(x, 0, asked, 4));
            wrongIndex(promise, x -> call.on(x, 0, asked, -1));
        }
        needsPlace(promise, (x, place) -> call.on(x, place, kind, 0));
        needsPlace(promise, (x, place) -> call.on(x, 0, kind, place));
        wrongIndex(promise, x -> call.on(x, 0, 5, 4));
        needsWithin(promise, 0, 4, (x, what) -> call.on(x, 0, what, 0));
    }

    private static void promise37() {
        int[][] ways = {{0, 0, 0}, {13, 1, 1}, {-13, 1, -1}, {11, 1, 0}, {-11, 1, 0}, {25, 1, 2}, {-25, 0, -25},
            {12, 1, 1}, {119, 2, 0}, {120, 2, 1}, {-120, 2, -1}, {-119, 2, 0}, {1199, 3, 0}, {1200, 3, 1},
            {-1200, 3, -1}, {11999, 4, 0}, {12000, 4, 1}, {-12000, 4, -1}, {-11999, 4, 0}};
        for (boolean isOfUnit : new boolean[] {false, true}) {
            for (int[] way : ways) {
                fresh();
                Checks.answer(() -> shelf.leaf(2, 1900, 5));
                Checks.answer(() -> shelf.leafLike(3, 2));
                Checks.answer(() -> shelf.months(3, way[0], false));
                due(37, Integer.toString(way[2]), x -> x.leafTo(2, 3, way[1], isOfUnit));
            }
            Checks.answer(() -> shelf.leaf(0, -LAST, 1));
            Checks.answer(() -> shelf.leaf(1, LAST, 12));
            due(37, "23999999987", x -> x.leafTo(0, 1, 0, isOfUnit));
            due(37, "-23999999987", x -> x.leafTo(1, 0, 0, isOfUnit));
            due(37, "1999999998", x -> x.leafTo(0, 1, 1, isOfUnit));
            due(37, "-1999999", x -> x.leafTo(1, 0, 4, isOfUnit));
            needsPlace(37, (x, place) -> x.leafTo(place, 0, 0, isOfUnit));
            needsPlace(37, (x, place) -> x.leafTo(0, place, 0, isOfUnit));
            wrongIndex(37, x -> x.leafTo(0, 4, 5, isOfUnit));
            needsWithin(37, 0, 4, (x, unit) -> x.leafTo(0, 1, unit, isOfUnit));
        }
    }

    private static void yearsAreAsked() {
        fresh();
        int[][] told = {{2024, 1, 366, 2024, 1}, {0, 1, 366, 1, 0}, {-LAST, 0, 365, LAST + 1, 0}, {1, 0, 365, 1, 1}};
        for (int year = 0; year < 4; year++) {
            int at = year;
            due(15, told[year][2], x -> x.year(at, told[at][0]));
            for (int what = 0; what <= 4; what++) {
                int asked = what;
                due(38, told[year][what], x -> x.ofYear(at, asked));
            }
        }
        needsPlace(38, (x, place) -> x.ofYear(place, 0));
        wrongIndex(38, x -> x.ofYear(4, 5));
        needsWithin(38, 0, 4, (x, what) -> x.ofYear(0, what));

        int[][] leaps = {{0, 0, 1}, {4, 1, 1}, {2, 2, 1}, {1, 1, 0}, {2, 1, 0}, {10, 10, 0}, {20, 20, 1}, {100, 3, 0},
            {-400, 1, 1}, {-100, 1, 0}, {-4, 1, 1}, {-2, 2, 1}, {LEAST, LEAST, 1}, {LEAST, 100, 1}, {MOST, 100, 0},
            {MOST, MOST, 0}, {MOST, 4, 1}, {100, 42949673, 0}, {65536, 65525, 1}, {LEAST, 25, 1}};
        for (int[] leap : leaps) {
            due(39, leap[2] == 1, x -> x.isLeap(leap[0], leap[1]));
        }
        promise40();
        orders(41, new int[] {2, 1, 3, 0}, (x, one, other, what) -> x.yearOrder(one, other, what));
        sameness(42, 1, (x, one, what, other) -> x.isYear(one, what, other), x -> x.yearLike(1, 0));
        promise43();
    }

    private static void promise40() {
        due(21, 0, x -> x.feast(1, 2, 29));
        due(40, true, x -> x.hasFeast(0, 1, false));
        due(40, true, x -> x.hasFeast(1, 1, false));
        due(40, false, x -> x.hasFeast(2, 1, false));
        due(40, false, x -> x.hasFeast(3, 1, false));
        due(40, true, x -> x.hasFeast(3, 0, false));
        due(40, false, x -> x.hasFeast(0, 1, true));
        due(40, false, x -> x.hasFeast(0, 0, true));
        for (boolean isNothing : new boolean[] {false, true}) {
            needsPlace(40, (x, place) -> x.hasFeast(place, 0, isNothing));
            needsPlace(40, (x, place) -> x.hasFeast(0, place, isNothing));
        }
    }

    private static void promise43() {
        int[][] ways = {{5, 1, 5}, {-5, 1, -5}, {9, 2, 0}, {10, 2, 1}, {-9, 2, 0}, {-10, 2, -1}, {25, 2, 2}, {99, 3, 0},
            {100, 3, 1}, {-199, 3, -1}, {999, 4, 0}, {1000, 4, 1}, {-999, 4, 0}, {-1000, 4, -1}, {0, 1, 0}};
        for (boolean isOfUnit : new boolean[] {false, true}) {
            for (int[] way : ways) {
                fresh();
                Checks.answer(() -> shelf.year(2, 1900));
                Checks.answer(() -> shelf.year(3, 1900 + way[0]));
                due(43, Integer.toString(way[2]), x -> x.yearTo(2, 3, way[1], isOfUnit));
            }
            Checks.answer(() -> shelf.year(0, -LAST));
            Checks.answer(() -> shelf.year(1, LAST));
            due(43, "1999999998", x -> x.yearTo(0, 1, 1, isOfUnit));
            due(43, "-1999999998", x -> x.yearTo(1, 0, 1, isOfUnit));
            due(43, "1999999", x -> x.yearTo(0, 1, 4, isOfUnit));
            needsPlace(43, (x, place) -> x.yearTo(place, 0, 1, isOfUnit));
            needsPlace(43, (x, place) -> x.yearTo(0, place, 1, isOfUnit));
            wrongIndex(43, x -> x.yearTo(0, 4, 0, isOfUnit));
            needsWithin(43, 1, 4, (x, unit) -> x.yearTo(0, 1, unit, isOfUnit));
        }
    }

    private static void feastsAndDaysAreAsked() {
        fresh();
        int[][] feasts = {{2, 29, 2, 28, 29}, {12, 30, 12, 31, 31}, {4, 1, 4, 30, 30}, {2, 28, 2, 28, 29}};
        for (int feast = 0; feast < 4; feast++) {
            int at = feast;
            Checks.answer(() -> shelf.feast(at, feasts[at][0], feasts[at][1]));
            for (int what = 0; what <= 4; what++) {
                int asked = what;
                due(44, feasts[feast][what], x -> x.ofFeast(at, asked));
            }
        }
        needsPlace(44, (x, place) -> x.ofFeast(place, 0));
        wrongIndex(44, x -> x.ofFeast(4, 5));
        needsWithin(44, 0, 4, (x, what) -> x.ofFeast(0, what));

        int[][] years = {{2024, 1}, {2000, 1}, {0, 1}, {-4, 1}, {1900, 0}, {2023, 0}, {-100, 0}, {LAST, 0}, {-LAST, 0}};
        for (int[] year : years) {
            due(45, year[1] == 1, x -> x.isInYear(0, year[0]));
            due(45, true, x -> x.isInYear(1, year[0]));
            due(45, true, x -> x.isInYear(3, year[0]));
        }
        needsPlace(45, (x, place) -> x.isInYear(place, 2000));
        wrongIndex(45, x -> x.isInYear(4, LAST + 1));
        needsWithin(45, -LAST, LAST, (x, number) -> x.isInYear(0, number));
        wrongArgument(45, x -> x.isInYear(1, LAST + 1));
        orders(46, new int[] {3, 0, 2, 1}, (x, one, other, what) -> x.feastOrder(one, other, what));
        sameness(47, 2, (x, one, what, other) -> x.isFeast(one, what, other), x -> x.feastLike(1, 0));
        fresh();
        due(21, 1, x -> x.feast(0, 1, 31));
        due(21, 1, x -> x.feast(1, 2, 1));
        due(46, -1, x -> x.feastOrder(0, 1, 0));
        due(46, 1, x -> x.feastOrder(1, 0, 0));
        due(47, false, x -> x.isFeast(0, 2, 1));
        promises48To50();
    }

    private static void promises48To50() {
        fresh();
        int[][] days = {{2024, 2, 29, 60, 4, 1}, {2023, 12, 30, 364, 6, 0}, {-1, 12, 31, 365, 5, 1},
            {0, 3, 1, 61, 3, 0}};
        String[] numbers = {"19782", "19721", "-719529", "-719468"};
        for (int day = 0; day < 4; day++) {
            int at = day;
            Checks.answer(() -> shelf.leaf(0, days[at][0], days[at][1]));
            due(27, days[day][4], x -> x.dayAt(at, 0, days[at][2]));
            for (int what = 0; what <= 5; what++) {
                int asked = what;
                due(48, days[day][what], x -> x.ofDay(at, asked));
            }
            due(49, numbers[day], x -> x.number(at));
        }
        needsPlace(48, (x, place) -> x.ofDay(place, 0));
        wrongIndex(48, x -> x.ofDay(4, 6));
        needsWithin(48, 0, 5, (x, what) -> x.ofDay(0, what));
        needsPlace(49, (x, place) -> x.number(place));
        orders(50, new int[] {2, 3, 1, 0}, (x, one, other, what) -> x.dayOrder(one, other, what));

        Checks.answer(() -> shelf.leaf(0, 1970, 1));
        Checks.answer(() -> shelf.dayAt(0, 0, 1));
        due(49, "0", x -> x.number(0));
        Checks.answer(() -> shelf.leaf(0, 1969, 12));
        Checks.answer(() -> shelf.dayEnd(1, 0));
        due(49, "-1", x -> x.number(1));
        due(50, 1, x -> x.dayOrder(0, 1, 0));
        Checks.answer(() -> shelf.dayEnd(2, 0));
        due(50, 0, x -> x.dayOrder(2, 1, 0));
        due(50, 0, x -> x.dayOrder(2, 1, 2));
    }

    private static void theHouse() {
        fresh();
        String[] known = {"0111110111111", "0001110011111", "1100000000000"};
        for (int kind = 0; kind <= 2; kind++) {
            for (int what = 0; what <= 12; what++) {
                int of = kind;
                int asked = what;
                due(51, known[kind].charAt(what) == '1', x -> x.knows(of, asked));
            }
        }
        needsWithin(51, 0, 2, (x, kind) -> x.knows(kind, 0));
        needsWithin(51, 0, 12, (x, what) -> x.knows(0, what));
        needsWithin(51, 0, 12, (x, what) -> x.knows(2, what));
        due(52, -LAST, x -> x.edge(false));
        due(52, LAST, x -> x.edge(true));
        promises53And54();
        promise55();
        promise56();
    }

    private static void promises53And54() {
        for (int knock = 1; knock <= 300; knock++) {
            due(53, knock, x -> x.knock());
        }
        due(54, 300, x -> x.house(4));
        fresh();
        due(53, 1, x -> x.knock());
        int[] atFirst = {4, 4, 4, 0, 1};
        for (int what = 0; what <= 4; what++) {
            int asked = what;
            due(54, atFirst[what], x -> x.house(asked));
        }
        due(2, 28, x -> x.leaf(3, 1900, 2));
        due(54, 3, x -> x.house(0));
        due(15, 365, x -> x.year(1, 2023));
        due(15, 365, x -> x.year(2, 2100));
        due(54, 2, x -> x.house(1));
        due(21, 0, x -> x.feast(3, 2, 29));
        due(54, 3, x -> x.house(2));
        due(28, 28, x -> x.dayEnd(3, 3));
        due(28, 31, x -> x.dayEnd(0, 0));
        due(27, 2, x -> x.dayAt(1, 3, 27));
        due(54, 2, x -> x.house(3));
        needsWithin(54, 0, 4, (x, what) -> x.house(what));
    }

    private static void promise55() {
        int[] years = {-LAST, -LAST + 1, -401, -400, -100, -4, -1, 0, 1, 4, 1900, 1969, 1970, 2000, 2023, 2024, 2100,
            999999598, 999999599, 999999600, 999999601, LAST - 1, LAST};
        fresh();
        due(55, true, x -> x.isSound());
        for (int at = 0; at < years.length; at++) {
            int year = years[at];
            int place = at % 4;
            if (place == 0) {
                fresh();
            }
            for (int month = 1; month <= 12; month++) {
                int told = month;
                Checks.answer(() -> shelf.leaf(place, year, told));
                Checks.answer(() -> shelf.year(place, year));
                Checks.answer(() -> shelf.feast(place, told, told == 2 ? 29 : 30));
                Checks.answer(() -> shelf.dayEnd(place, place));
                still(55, true, x -> x.isSound());
            }
        }
        soundOfLikeThings();
    }

    /** Leaves of one year and feasts of one month, which only their last part tells apart, and the same ones. */
    private static void soundOfLikeThings() {
        for (int place = 0; place < 4; place++) {
            int at = place;
            Checks.answer(() -> shelf.leaf(at, 2024, 3 - at % 3));
            Checks.answer(() -> shelf.year(at, 2023 + at % 3));
            Checks.answer(() -> shelf.feast(at, 2, 29 - at % 3));
            still(55, true, x -> x.isSound());
        }
    }

    private static void promise56() {
        fresh();
        due(56, new TimeShelf().digest(), x -> x.digest());
        Checks.answer(() -> shelf.leaf(0, 2024, 2));
        Checks.answer(() -> shelf.leaf(1, -LAST, 1));
        Checks.answer(() -> shelf.leaf(2, LAST, 12));
        Checks.answer(() -> shelf.year(1, 2023));
        Checks.answer(() -> shelf.feast(3, 2, 29));
        Checks.answer(() -> shelf.dayEnd(2, 0));
        Checks.answer(() -> shelf.knock());
        TimeShelf model = new TimeShelf();
        model.leaf(0, 2024, 2);
        model.leaf(1, -LAST, 1);
        model.leaf(2, LAST, 12);
        model.year(1, 2023);
        model.feast(3, 2, 29);
        model.dayEnd(2, 0);
        model.knock();
        still(56, model.digest(), x -> x.digest());
        still(56, model.digest(), x -> x.digest());
    }
}
