/** A shelf of leaves, years, feasts and days of a calendar that has no end that one would come to. */
public final class Monthyears {
    private static final int REFUSED = -9;
    private static final int PLACES = 4;
    private static final int MOST_OF_BOTH = 99999999;
    private static final int LONGEST_MONTH = 31;

    private static final int OF_LEAF = 0;
    private static final int OF_YEAR = 1;
    private static final int OF_FEAST = 2;
    private static final int OF_NOTHING = 4;

    // A leaf is held as its COUNT alone: to go on by months is to add, and the order of leaves is that of counts.
    private final long[] leafCounts = new long[PLACES];
    private final int[] yearNumbers = new int[PLACES];
    private final int[] feastMonths = new int[PLACES];
    private final int[] feastDays = new int[PLACES];
    private final long[] dayLeaves = new long[PLACES];
    private final int[] dayNumbers = new int[PLACES];
    // One builder for all texts of the object, since a digest writes forty of them.
    private final StringBuilder text = new StringBuilder();
    private int knocks = 0;

    public Monthyears() {
        for (int place = 0; place < PLACES; place++) {
            feastMonths[place] = 1;
            feastDays[place] = 1;
            dayNumbers[place] = 1;
        }
    }

    // ---- leaves come to be

    public int leaf(int leaf, int year, int month) throws IndexOutOfBoundsException, IllegalArgumentException {
        needPlace(leaf);
        needYearNumber(year);
        needMonth(month);
        return putLeaf(leaf, Calendar.countOf(year, month));
    }

    public int leafRound(int leaf, int year, int months) throws IndexOutOfBoundsException, IllegalArgumentException {
        needPlace(leaf);
        needYearNumber(year);
        int month = Calendar.monthBehindFirst(months);
        putLeaf(leaf, Calendar.countOf(year, month));
        return month;
    }

    public int months(int leaf, int months, boolean isBack) throws IndexOutOfBoundsException {
        needPlace(leaf);
        return moveLeaf(leaf, months, isBack);
    }

    public int years(int leaf, int years, boolean isBack) throws IndexOutOfBoundsException {
        needPlace(leaf);
        return moveLeaf(leaf, Calendar.monthsInUnits(years, Calendar.UNIT_YEAR), isBack);
    }

    public int units(int leaf, int unit, int many, boolean isBack)
            throws IndexOutOfBoundsException, IllegalArgumentException {
        needPlace(leaf);
        needWithin(unit, Calendar.UNIT_MONTH, Calendar.UNIT_THOUSAND);
        return moveLeaf(leaf, Calendar.monthsInUnits(many, unit), isBack);
    }

    public int both(int leaf, int years, int months, boolean isBack)
            throws IndexOutOfBoundsException, IllegalArgumentException {
        needPlace(leaf);
        needWithin(years, -MOST_OF_BOTH, MOST_OF_BOTH);
        needWithin(months, -MOST_OF_BOTH, MOST_OF_BOTH);
        return moveLeaf(leaf, Calendar.monthsInUnits(years, Calendar.UNIT_YEAR) + months, isBack);
    }

    public int leafYear(int leaf, int year) throws IndexOutOfBoundsException, IllegalArgumentException {
        needPlace(leaf);
        needYearNumber(year);
        long before = leafCounts[leaf];
        putLeaf(leaf, Calendar.countOf(year, Calendar.monthOf(before)));
        return Calendar.yearOfCount(before);
    }

    public int leafMonth(int leaf, int month) throws IndexOutOfBoundsException, IllegalArgumentException {
        needPlace(leaf);
        needMonth(month);
        long before = leafCounts[leaf];
        putLeaf(leaf, Calendar.countOf(Calendar.yearOfCount(before), month));
        return Calendar.monthOf(before);
    }

    public int leafWith(int leaf, int what, int value) throws IndexOutOfBoundsException, IllegalArgumentException {
        needPlace(leaf);
        needWithin(what, 0, 4);
        if (what == 4) {
            return putLeaf(leaf, value);
        }
        int year = Calendar.yearOfCount(leafCounts[leaf]);
        if (what == 0) {
            needMonth(value);
            return putLeaf(leaf, Calendar.countOf(year, value));
        }
        needYearThing(what - 1, value);
        int changed = Calendar.yearWithThing(year, what - 1, value);
        return putLeaf(leaf, Calendar.countOf(changed, Calendar.monthOf(leafCounts[leaf])));
    }

    public int leafOf(int leaf, int year, int month) throws IndexOutOfBoundsException, IllegalArgumentException {
        needPlace(leaf);
        needPlace(year);
        needMonth(month);
        return putLeaf(leaf, Calendar.countOf(yearNumbers[year], month));
    }

    public int leafOfRound(int leaf, int year, int months) throws IndexOutOfBoundsException {
        needPlace(leaf);
        needPlace(year);
        int month = Calendar.monthBehindFirst(months);
        putLeaf(leaf, Calendar.countOf(yearNumbers[year], month));
        return month;
    }

    public int leafOfDay(int leaf, int day) throws IndexOutOfBoundsException {
        needPlace(leaf);
        needPlace(day);
        return putLeaf(leaf, dayLeaves[day]);
    }

    public int leafLike(int leaf, int other) throws IndexOutOfBoundsException {
        needPlace(leaf);
        needPlace(other);
        int wasSame = oneIf(leafCounts[leaf] == leafCounts[other]);
        leafCounts[leaf] = leafCounts[other];
        return wasSame;
    }

    // ---- years come to be

    public int year(int year, int number) throws IndexOutOfBoundsException, IllegalArgumentException {
        needPlace(year);
        needYearNumber(number);
        return putYear(year, number);
    }

    public int later(int year, int years, boolean isBack) throws IndexOutOfBoundsException {
        needPlace(year);
        return moveYear(year, years, isBack);
    }

    public int yearUnits(int year, int unit, int many, boolean isBack)
            throws IndexOutOfBoundsException, IllegalArgumentException {
        needPlace(year);
        needWithin(unit, Calendar.UNIT_YEAR, Calendar.UNIT_THOUSAND);
        return moveYear(year, Calendar.monthsInUnits(many, unit) / 12, isBack);
    }

    public int yearWith(int year, int what, int value) throws IndexOutOfBoundsException, IllegalArgumentException {
        needPlace(year);
        needWithin(what, 0, 2);
        needYearThing(what, value);
        return putYear(year, Calendar.yearWithThing(yearNumbers[year], what, value));
    }

    public int yearOf(int year, boolean isDay, int other) throws IndexOutOfBoundsException {
        needPlace(year);
        needPlace(other);
        return putYear(year, Calendar.yearOfCount(isDay ? dayLeaves[other] : leafCounts[other]));
    }

    public int yearLike(int year, int other) throws IndexOutOfBoundsException {
        needPlace(year);
        needPlace(other);
        int wasSame = oneIf(yearNumbers[year] == yearNumbers[other]);
        yearNumbers[year] = yearNumbers[other];
        return wasSame;
    }

    // ---- feasts come to be

    public int feast(int feast, int month, int day) throws IndexOutOfBoundsException, IllegalArgumentException {
        needPlace(feast);
        needMonth(month);
        needDayOfMonth(day);
        if (!putFeast(feast, month, day)) {
            return REFUSED;
        }
        return oneIf(Calendar.isInEachYear(month, day));
    }

    public int feastRound(int feast, int months, int day) throws IndexOutOfBoundsException, IllegalArgumentException {
        needPlace(feast);
        needDayOfMonth(day);
        int month = Calendar.monthBehindFirst(months);
        return putFeast(feast, month, day) ? month : REFUSED;
    }

    public int feastMonth(int feast, int month, boolean isField)
            throws IndexOutOfBoundsException, IllegalArgumentException {
        needPlace(feast);
        needMonth(month);
        int day = Math.min(feastDays[feast], Calendar.monthLength(month, true));
        putFeast(feast, month, day);
        return day;
    }

    public int feastDay(int feast, int day, boolean isField)
            throws IndexOutOfBoundsException, IllegalArgumentException {
        needPlace(feast);
        needDayOfMonth(day);
        int before = feastDays[feast];
        return putFeast(feast, feastMonths[feast], day) ? before : REFUSED;
    }

    public int feastOf(int feast, int day) throws IndexOutOfBoundsException {
        needPlace(feast);
        needPlace(day);
        int month = Calendar.monthOf(dayLeaves[day]);
        putFeast(feast, month, dayNumbers[day]);
        return oneIf(Calendar.isInEachYear(month, dayNumbers[day]));
    }

    public int feastLike(int feast, int other) throws IndexOutOfBoundsException {
        needPlace(feast);
        needPlace(other);
        int wasSame = oneIf(feastRank(feast) == feastRank(other));
        feastMonths[feast] = feastMonths[other];
        feastDays[feast] = feastDays[other];
        return wasSame;
    }

    // ---- days come to be

    public int dayAt(int day, int leaf, int number) throws IndexOutOfBoundsException, IllegalArgumentException {
        needPlace(day);
        needPlace(leaf);
        needDayOfMonth(number);
        if (!Calendar.isDayOfCount(leafCounts[leaf], number)) {
            return REFUSED;
        }
        putDay(day, leafCounts[leaf], number);
        return weekdayAt(day);
    }

    public int dayEnd(int day, int leaf) throws IndexOutOfBoundsException {
        needPlace(day);
        needPlace(leaf);
        putDay(day, leafCounts[leaf], Calendar.lengthOf(leafCounts[leaf]));
        return dayNumbers[day];
    }

    public int dayInYear(int day, int year, int place) throws IndexOutOfBoundsException, IllegalArgumentException {
        needPlace(day);
        needPlace(year);
        needWithin(place, 1, 366);
        int number = yearNumbers[year];
        if (place > Calendar.yearLength(number)) {
            return REFUSED;
        }
        boolean isLeap = Calendar.isLeapNumber(number);
        int month = Calendar.monthOfPlace(place, isLeap);
        putDay(day, Calendar.countOf(number, month), place - Calendar.daysAheadOf(month, isLeap));
        return month;
    }

    public int dayOfFeast(int day, int feast, int number) throws IndexOutOfBoundsException, IllegalArgumentException {
        needPlace(day);
        needPlace(feast);
        needYearNumber(number);
        putDayOfFeast(day, feast, number);
        return weekdayAt(day);
    }

    public int dayOfYear(int day, int year, int feast) throws IndexOutOfBoundsException {
        needPlace(day);
        needPlace(year);
        needPlace(feast);
        putDayOfFeast(day, feast, yearNumbers[year]);
        return dayNumbers[day];
    }

    // ---- what is asked of leaves

    public int ofLeaf(int leaf, int what) throws IndexOutOfBoundsException, IllegalArgumentException {
        needPlace(leaf);
        needWithin(what, 0, 7);
        long count = leafCounts[leaf];
        int year = Calendar.yearOfCount(count);
        switch (what) {
            case 0: return year;
            case 2: return Calendar.lengthOf(count);
            case 3: return Calendar.yearLength(year);
            case 4: return oneIf(Calendar.isLeapNumber(year));
            case 6: return Calendar.rankOf(year);
            case 7: return Calendar.sideOf(year);
            default: return Calendar.monthOf(count);
        }
    }

    public String count(int leaf) throws IndexOutOfBoundsException {
        needPlace(leaf);
        return textOf(leafCounts[leaf]);
    }

    public boolean hasDay(int leaf, int number) throws IndexOutOfBoundsException {
        needPlace(leaf);
        return Calendar.isDayOfCount(leafCounts[leaf], number);
    }

    public int leafOrder(int leaf, int other, int what) throws IndexOutOfBoundsException, IllegalArgumentException {
        needPlace(leaf);
        needPlace(other);
        needWithin(what, 0, 2);
        return orderTold(leafCounts[leaf], leafCounts[other], what);
    }

    public boolean isLeaf(int leaf, int what, int other) throws IndexOutOfBoundsException, IllegalArgumentException {
        needPlace(leaf);
        needPlace(other);
        needWithin(what, OF_LEAF, OF_NOTHING);
        return what == OF_LEAF && leafCounts[leaf] == leafCounts[other];
    }

    public String leafTo(int leaf, int other, int unit, boolean isOfUnit)
            throws IndexOutOfBoundsException, IllegalArgumentException {
        needPlace(leaf);
        needPlace(other);
        needWithin(unit, Calendar.UNIT_MONTH, Calendar.UNIT_THOUSAND);
        return textOf(unitsToLeaf(leaf, other, unit));
    }

    // ---- what is asked of years

    public int ofYear(int year, int what) throws IndexOutOfBoundsException, IllegalArgumentException {
        needPlace(year);
        needWithin(what, 0, 4);
        int number = yearNumbers[year];
        switch (what) {
            case 0: return number;
            case 1: return oneIf(Calendar.isLeapNumber(number));
            case 2: return Calendar.yearLength(number);
            case 3: return Calendar.rankOf(number);
            default: return Calendar.sideOf(number);
        }
    }

    public boolean isLeap(int one, int other) {
        return Calendar.isLeapNumber((long) one * other);
    }

    public boolean hasFeast(int year, int feast, boolean isNothing) throws IndexOutOfBoundsException {
        needPlace(year);
        needPlace(feast);
        return !isNothing && isFeastIn(feast, yearNumbers[year]);
    }

    public int yearOrder(int year, int other, int what) throws IndexOutOfBoundsException, IllegalArgumentException {
        needPlace(year);
        needPlace(other);
        needWithin(what, 0, 2);
        return orderTold(yearNumbers[year], yearNumbers[other], what);
    }

    public boolean isYear(int year, int what, int other) throws IndexOutOfBoundsException, IllegalArgumentException {
        needPlace(year);
        needPlace(other);
        needWithin(what, OF_LEAF, OF_NOTHING);
        return what == OF_YEAR && yearNumbers[year] == yearNumbers[other];
    }

    public String yearTo(int year, int other, int unit, boolean isOfUnit)
            throws IndexOutOfBoundsException, IllegalArgumentException {
        needPlace(year);
        needPlace(other);
        needWithin(unit, Calendar.UNIT_YEAR, Calendar.UNIT_THOUSAND);
        long years = (long) yearNumbers[other] - yearNumbers[year];
        return textOf(Calendar.unitsInMonths(12 * years, unit));
    }

    // ---- what is asked of feasts and days

    public int ofFeast(int feast, int what) throws IndexOutOfBoundsException, IllegalArgumentException {
        needPlace(feast);
        needWithin(what, 0, 4);
        switch (what) {
            case 1: return feastDays[feast];
            case 3: return Calendar.monthLength(feastMonths[feast], false);
            case 4: return Calendar.monthLength(feastMonths[feast], true);
            default: return feastMonths[feast];
        }
    }

    public boolean isInYear(int feast, int number) throws IndexOutOfBoundsException, IllegalArgumentException {
        needPlace(feast);
        needYearNumber(number);
        return isFeastIn(feast, number);
    }

    public int feastOrder(int feast, int other, int what) throws IndexOutOfBoundsException, IllegalArgumentException {
        needPlace(feast);
        needPlace(other);
        needWithin(what, 0, 2);
        return orderTold(feastRank(feast), feastRank(other), what);
    }

    public boolean isFeast(int feast, int what, int other) throws IndexOutOfBoundsException, IllegalArgumentException {
        needPlace(feast);
        needPlace(other);
        needWithin(what, OF_LEAF, OF_NOTHING);
        return what == OF_FEAST && feastRank(feast) == feastRank(other);
    }

    public int ofDay(int day, int what) throws IndexOutOfBoundsException, IllegalArgumentException {
        needPlace(day);
        needWithin(what, 0, 5);
        long count = dayLeaves[day];
        switch (what) {
            case 0: return Calendar.yearOfCount(count);
            case 1: return Calendar.monthOf(count);
            case 2: return dayNumbers[day];
            case 3: return Calendar.placeOf(count, dayNumbers[day]);
            case 4: return weekdayAt(day);
            default: return oneIf(isLastOfMonth(day));
        }
    }

    public String number(int day) throws IndexOutOfBoundsException {
        needPlace(day);
        return textOf(dayNumberAt(day));
    }

    public int dayOrder(int day, int other, int what) throws IndexOutOfBoundsException, IllegalArgumentException {
        needPlace(day);
        needPlace(other);
        needWithin(what, 0, 2);
        return orderTold(dayNumberAt(day), dayNumberAt(other), what);
    }

    // ---- the house

    public boolean knows(int kind, int what) throws IllegalArgumentException {
        needWithin(kind, OF_LEAF, OF_FEAST);
        needWithin(what, 0, 12);
        switch (kind) {
            case OF_LEAF: return (what >= 1 && what <= 5) || what >= 7;
            case OF_YEAR: return (what >= 3 && what <= 5) || what >= 8;
            default: return what <= 1;
        }
    }

    public int edge(boolean isLast) {
        return isLast ? Calendar.LAST_YEAR : Calendar.FIRST_YEAR;
    }

    public int knock() {
        knocks++;
        return knocks;
    }

    public int house(int what) throws IllegalArgumentException {
        needWithin(what, 0, 4);
        if (what == 4) {
            return knocks;
        }
        int many = 0;
        for (int place = 0; place < PLACES; place++) {
            many += oneIf(isCounted(place, what));
        }
        return many;
    }

    public boolean isSound() {
        for (int place = 0; place < PLACES; place++) {
            if (!isLeafSound(leafCounts[place]) || !isYearSound(yearNumbers[place])) {
                return false;
            }
            for (int other = 0; other < PLACES; other++) {
                if (!isPairSound(place, other) || !isFeastSound(place, yearNumbers[other])) {
                    return false;
                }
            }
        }
        return true;
    }

    public long digest() {
        long d = digestOfLeaves(7792);
        d = digestOfYears(d);
        d = digestOfFeasts(d);
        d = digestOfDays(d);
        d = digestOfWays(d);
        d = digestOfFeastsInYears(d);
        for (int what = 0; what <= 4; what++) {
            d = d * 31 + house(what);
        }
        return d * 31 + oneIf(isSound());
    }

    // ---- what a call needs

    private static void needPlace(int place) {
        if (place < 0 || place >= PLACES) {
            throw new IndexOutOfBoundsException("a place on the shelf is 0 to 3");
        }
    }

    private static void needWithin(int value, int least, int most) {
        if (value < least || value > most) {
            throw new IllegalArgumentException("a value is beyond what is told for it");
        }
    }

    private static void needYearNumber(int number) {
        needWithin(number, Calendar.FIRST_YEAR, Calendar.LAST_YEAR);
    }

    private static void needMonth(int month) {
        needWithin(month, 1, 12);
    }

    private static void needDayOfMonth(int day) {
        needWithin(day, 1, LONGEST_MONTH);
    }

    private static void needYearThing(int thing, int value) {
        switch (thing) {
            case Calendar.THING_NUMBER:
                needYearNumber(value);
                break;
            case Calendar.THING_RANK:
                needWithin(value, 1, Calendar.LAST_YEAR);
                break;
            default:
                needWithin(value, 0, 1);
                break;
        }
    }

    // ---- how a thing comes to lie on its place (which the caller has looked at)

    private int putLeaf(int leaf, long count) {
        if (count < Calendar.FIRST_COUNT || count > Calendar.LAST_COUNT) {
            return REFUSED;
        }
        leafCounts[leaf] = count;
        return Calendar.lengthOf(count);
    }

    private int moveLeaf(int leaf, long months, boolean isBack) {
        return putLeaf(leaf, leafCounts[leaf] + (isBack ? -months : months));
    }

    private int putYear(int year, long number) {
        if (number < Calendar.FIRST_YEAR || number > Calendar.LAST_YEAR) {
            return REFUSED;
        }
        yearNumbers[year] = (int) number;
        return Calendar.yearLength(number);
    }

    private int moveYear(int year, long years, boolean isBack) {
        return putYear(year, yearNumbers[year] + (isBack ? -years : years));
    }

    private boolean putFeast(int feast, int month, int day) {
        if (day > Calendar.monthLength(month, true)) {
            return false;
        }
        feastMonths[feast] = month;
        feastDays[feast] = day;
        return true;
    }

    private void putDay(int day, long count, int number) {
        dayLeaves[day] = count;
        dayNumbers[day] = number;
    }

    private void putDayOfFeast(int day, int feast, int year) {
        putDay(day, Calendar.countOf(year, feastMonths[feast]), dayOfFeastIn(feast, year));
    }

    // ---- what is told of the things

    private static int oneIf(boolean isSo) {
        return isSo ? 1 : 0;
    }

    private static int orderTold(long first, long second, int what) {
        switch (what) {
            case 0: return first < second ? -1 : oneIf(first > second);
            case 1: return oneIf(first < second);
            default: return oneIf(first > second);
        }
    }

    private long unitsToLeaf(int leaf, int other, int unit) {
        return Calendar.unitsInMonths(leafCounts[other] - leafCounts[leaf], unit);
    }

    /** Stands to another feast's rank as the feasts stand to each other, and is the same for the same. */
    private int feastRank(int feast) {
        return feastMonths[feast] * (LONGEST_MONTH + 1) + feastDays[feast];
    }

    private boolean isFeastIn(int feast, int year) {
        return Calendar.isInEachYear(feastMonths[feast], feastDays[feast]) || Calendar.isLeapNumber(year);
    }

    private int dayOfFeastIn(int feast, int year) {
        return isFeastIn(feast, year) ? feastDays[feast] : 28;
    }

    private long numberOfFeastIn(int feast, int year) {
        return Calendar.dayNumberOf(Calendar.countOf(year, feastMonths[feast]), dayOfFeastIn(feast, year));
    }

    private long dayNumberAt(int day) {
        return Calendar.dayNumberOf(dayLeaves[day], dayNumbers[day]);
    }

    private int weekdayAt(int day) {
        // Not by dayNumberAt: from digest the chain of calls would be the longest that LANGUAGE.md lets.
        return Calendar.weekdayOf(Calendar.dayNumberOf(dayLeaves[day], dayNumbers[day]));
    }

    private boolean isLastOfMonth(int day) {
        return dayNumbers[day] == Calendar.lengthOf(dayLeaves[day]);
    }

    private boolean isCounted(int place, int what) {
        switch (what) {
            case 0: return Calendar.isLeapNumber(Calendar.yearOfCount(leafCounts[place]));
            case 1: return Calendar.isLeapNumber(yearNumbers[place]);
            case 2: return Calendar.isInEachYear(feastMonths[place], feastDays[place]);
            default: return isLastOfMonth(place);
        }
    }

    // ---- texts of numbers

    private String textOf(long number) {
        writeText(number);
        return text.toString();
    }

    private void writeText(long number) {
        text.setLength(0);
        long rest = number < 0 ? -number : number;
        // A long has at most 19 digits.
        for (int digits = 0; digits < 19 && (rest > 0 || digits == 0); digits++) {
            text.append((char) ('0' + rest % 10));
            rest /= 10;
        }
        if (number < 0) {
            text.append('-');
        }
        text.reverse();
    }

    // ---- the parts of the theorem
    // The COUNT of a leaf, the number of a year and the rank of a feast are their codes: the same have the same.

    private static boolean isLeafSound(long count) {
        int length = Calendar.lengthOf(count);
        boolean isSame = Calendar.countOf(Calendar.yearOfCount(count), Calendar.monthOf(count)) == count;
        boolean hasItsDays = Calendar.isDayOfCount(count, length)
                && !Calendar.isDayOfCount(count, length + 1) && !Calendar.isDayOfCount(count, 0);
        return isSame && hasItsDays && (count == Calendar.LAST_COUNT || isNextSound(count, count + 1));
    }

    private static boolean isNextSound(long count, long next) {
        long last = Calendar.dayNumberOf(count, Calendar.lengthOf(count));
        return orderTold(next, count, 0) == 1 && next - 1 == count && Calendar.dayNumberOf(next, 1) == last + 1;
    }

    private static boolean isYearSound(int number) {
        long days = 0;
        for (int month = 1; month <= 12; month++) {
            days += Calendar.lengthOf(Calendar.countOf(number, month));
        }
        int length = Calendar.yearLength(number);
        boolean isLeapAsTold = (length == 366) == Calendar.isLeapNumber(number);
        return isLeapAsTold && length == days && (number >= 999999600 || daysOf400Years(number) == 146097);
    }

    private static long daysOf400Years(int number) {
        return Calendar.dayNumberOf(Calendar.countOf(number + 400, 1), 1)
                - Calendar.dayNumberOf(Calendar.countOf(number, 1), 1);
    }

    private boolean isPairSound(int place, int other) {
        int leaves = orderTold(Calendar.yearOfCount(leafCounts[place]), Calendar.yearOfCount(leafCounts[other]), 0);
        if (leaves == 0) {
            leaves = orderTold(Calendar.monthOf(leafCounts[place]), Calendar.monthOf(leafCounts[other]), 0);
        }
        int years = orderTold(yearNumbers[place], yearNumbers[other], 0);
        long firstMonth = Calendar.countOf(yearNumbers[place], 1);
        long firstMonthOfOther = Calendar.countOf(yearNumbers[other], 1);
        int feasts = orderTold(feastRank(place), feastRank(other), 0);
        return leaves == orderTold(leafCounts[place], leafCounts[other], 0)
                && years == orderTold(firstMonth, firstMonthOfOther, 0)
                && feasts == orderTold(numberOfFeastIn(place, 2000), numberOfFeastIn(other, 2000), 0);
    }

    private boolean isFeastSound(int feast, int year) {
        long count = Calendar.countOf(year, feastMonths[feast]);
        boolean hasIt = Calendar.isDayOfCount(count, feastDays[feast]);
        int day = hasIt ? feastDays[feast] : 28;
        return hasIt == isFeastIn(feast, year) && Calendar.dayNumberOf(count, day) == numberOfFeastIn(feast, year);
    }

    // ---- the parts of the digest

    private long withText(long d, long number) {
        writeText(number);
        long mixed = d * 31 + text.length();
        for (int at = 0; at < text.length(); at++) {
            mixed = mixed * 31 + text.charAt(at);
        }
        return mixed;
    }

    private long digestOfLeaves(long start) {
        long d = start;
        for (int leaf = 0; leaf < PLACES; leaf++) {
            for (int what = 0; what <= 7; what++) {
                d = d * 31 + ofLeaf(leaf, what);
            }
            d = withText(d, leafCounts[leaf]);
        }
        return d;
    }

    private long digestOfYears(long start) {
        long d = start;
        for (int year = 0; year < PLACES; year++) {
            for (int what = 0; what <= 4; what++) {
                d = d * 31 + ofYear(year, what);
            }
        }
        return d;
    }

    private long digestOfFeasts(long start) {
        long d = start;
        for (int feast = 0; feast < PLACES; feast++) {
            for (int what = 0; what <= 4; what++) {
                d = d * 31 + ofFeast(feast, what);
            }
        }
        return d;
    }

    private long digestOfDays(long start) {
        long d = start;
        for (int day = 0; day < PLACES; day++) {
            for (int what = 0; what <= 5; what++) {
                d = d * 31 + ofDay(day, what);
            }
            d = withText(d, dayNumberAt(day));
        }
        return d;
    }

    private long digestOfWays(long start) {
        long d = start;
        for (int leaf = 0; leaf < PLACES; leaf++) {
            for (int other = 0; other < PLACES; other++) {
                d = d * 31 + leafOrder(leaf, other, 0);
                d = withText(d, unitsToLeaf(leaf, other, Calendar.UNIT_MONTH));
                d = withText(d, unitsToLeaf(leaf, other, Calendar.UNIT_YEAR));
            }
        }
        return d;
    }

    private long digestOfFeastsInYears(long start) {
        long d = start;
        for (int year = 0; year < PLACES; year++) {
            for (int feast = 0; feast < PLACES; feast++) {
                d = d * 31 + oneIf(isFeastIn(feast, yearNumbers[year]));
            }
        }
        return d;
    }

    /** The rules of the calendar, which know nothing of the shelf. */
    private static final class Calendar {
        static final int FIRST_YEAR = -999999999;
        static final int LAST_YEAR = 999999999;
        static final long FIRST_COUNT = -11999999988L;
        static final long LAST_COUNT = 11999999999L;

        static final int UNIT_MONTH = 0;
        static final int UNIT_YEAR = 1;
        static final int UNIT_THOUSAND = 4;

        static final int THING_NUMBER = 0;
        static final int THING_RANK = 1;

        // The NUMBER of the 1st of the MONTH 1 of the YEAR 0.
        private static final long NUMBER_OF_YEAR_0 = -719528;

        private Calendar() {
        }

        static boolean isLeapNumber(long year) {
            return year % 400 == 0 || (year % 4 == 0 && year % 100 != 0);
        }

        static int yearLength(long year) {
            return isLeapNumber(year) ? 366 : 365;
        }

        static int sideOf(int year) {
            return year > 0 ? 1 : 0;
        }

        static int rankOf(int year) {
            return year > 0 ? year : 1 - year;
        }

        static int yearOfRank(int rank, int side) {
            return side == 1 ? rank : 1 - rank;
        }

        /** The year with another number, RANK or SIDE; of a RANK that the SIDE does not have, one beyond the last. */
        static int yearWithThing(int year, int thing, int value) {
            switch (thing) {
                case THING_NUMBER: return value;
                case THING_RANK: return yearOfRank(value, sideOf(year));
                default: return yearOfRank(rankOf(year), value);
            }
        }

        static int monthLength(int month, boolean isLeapYear) {
            switch (month) {
                case 2: return isLeapYear ? 29 : 28;
                case 4: case 6: case 9: case 11: return 30;
                default: return 31;
            }
        }

        static int monthBehindFirst(int months) {
            return 1 + Math.floorMod(months, 12);
        }

        static boolean isInEachYear(int month, int day) {
            return month != 2 || day <= 28;
        }

        static long countOf(int year, int month) {
            return 12L * year + month - 1;
        }

        static int yearOfCount(long count) {
            return (int) Math.floorDiv(count, 12L);
        }

        static int monthOf(long count) {
            return 1 + (int) Math.floorMod(count, 12L);
        }

        static int lengthOf(long count) {
            return monthLength(monthOf(count), isLeapNumber(yearOfCount(count)));
        }

        static boolean isDayOfCount(long count, int day) {
            return day >= 1 && day <= lengthOf(count);
        }

        static int daysAheadOf(int month, boolean isLeapYear) {
            int days = 0;
            for (int ahead = 1; ahead < month; ahead++) {
                days += monthLength(ahead, isLeapYear);
            }
            return days;
        }

        static int monthOfPlace(int place, boolean isLeapYear) {
            int month = 1;
            while (month < 12 && place > daysAheadOf(month + 1, isLeapYear)) {
                month++;
            }
            return month;
        }

        static int placeOf(long count, int day) {
            return daysAheadOf(monthOf(count), isLeapNumber(yearOfCount(count))) + day;
        }

        static long dayNumberOf(long count, int day) {
            long year = yearOfCount(count);
            long before = year - 1;
            // Leap years from 0 on and ahead of this one; the year 0 itself is the one that is added.
            long leapYears = Math.floorDiv(before, 4L) - Math.floorDiv(before, 100L) + Math.floorDiv(before, 400L) + 1;
            int daysAhead = daysAheadOf(monthOf(count), isLeapNumber(year));
            return NUMBER_OF_YEAR_0 + 365 * year + leapYears + daysAhead + day - 1;
        }

        static int weekdayOf(long dayNumber) {
            return 1 + (int) Math.floorMod(dayNumber + 3, 7L);
        }

        static long monthsInUnits(int many, int unit) {
            return many * sizeOf(unit);
        }

        static long unitsInMonths(long months, int unit) {
            long size = sizeOf(unit);
            return size < 1 ? 0 : months / size;
        }

        private static long sizeOf(int unit) {
            switch (unit) {
                case UNIT_MONTH: return 1;
                case UNIT_YEAR: return 12;
                case 2: return 120;
                case 3: return 1200;
                default: return 12000;
            }
        }
    }
}
