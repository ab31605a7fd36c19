import java.math.BigInteger;
import java.time.DateTimeException;
import java.time.LocalDate;
import java.time.Month;
import java.time.MonthDay;
import java.time.Year;
import java.time.YearMonth;
import java.time.temporal.ChronoField;
import java.time.temporal.ChronoUnit;
import java.time.temporal.TemporalUnit;
import java.util.Arrays;

/** The shelf of the document, built on java.time: what the tests hold Monthyears against. */
public final class TimeShelf {
    private static final TemporalUnit[] UNITS = {
        ChronoUnit.MONTHS, ChronoUnit.YEARS, ChronoUnit.DECADES, ChronoUnit.CENTURIES, ChronoUnit.MILLENNIA
    };

    private final YearMonth[] leaves = new YearMonth[4];
    private final Year[] years = new Year[4];
    private final MonthDay[] feasts = new MonthDay[4];
    private final LocalDate[] days = new LocalDate[4];
    private int knocks = 0;

    public TimeShelf() {
        Arrays.fill(leaves, YearMonth.of(0, 1));
        Arrays.fill(years, Year.of(0));
        Arrays.fill(feasts, MonthDay.of(1, 1));
        Arrays.fill(days, LocalDate.of(0, 1, 1));
    }

    private static void places(int... all) {
        for (int place : all) {
            if (place < 0 || place > 3) {
                throw new IndexOutOfBoundsException();
            }
        }
    }

    private static void within(long value, long least, long most) {
        if (value < least || value > most) {
            throw new IllegalArgumentException();
        }
    }

    private static void yearNumber(int number) {
        within(number, Year.MIN_VALUE, Year.MAX_VALUE);
    }

    private static int one(boolean isSo) {
        return isSo ? 1 : 0;
    }

    private int put(int leaf, YearMonth other) {
        leaves[leaf] = other;
        return other.lengthOfMonth();
    }

    private int put(int year, Year other) {
        years[year] = other;
        return other.length();
    }

    public int leaf(int leaf, int year, int month) {
        places(leaf);
        yearNumber(year);
        within(month, 1, 12);
        return put(leaf, YearMonth.of(year, month));
    }

    public int leafRound(int leaf, int year, int months) {
        places(leaf);
        yearNumber(year);
        put(leaf, YearMonth.of(year, Month.JANUARY.plus(months)));
        return leaves[leaf].getMonthValue();
    }

    public int months(int leaf, int months, boolean isBack) {
        places(leaf);
        try {
            return put(leaf, isBack ? leaves[leaf].minusMonths(months) : leaves[leaf].plusMonths(months));
        } catch (DateTimeException none) {
            return -9;
        }
    }

    public int years(int leaf, int many, boolean isBack) {
        places(leaf);
        try {
            return put(leaf, isBack ? leaves[leaf].minusYears(many) : leaves[leaf].plusYears(many));
        } catch (DateTimeException none) {
            return -9;
        }
    }

    public int units(int leaf, int unit, int many, boolean isBack) {
        places(leaf);
        within(unit, 0, 4);
        try {
            return put(leaf, isBack ? leaves[leaf].minus(many, UNITS[unit]) : leaves[leaf].plus(many, UNITS[unit]));
        } catch (DateTimeException none) {
            return -9;
        }
    }

    public int both(int leaf, int many, int months, boolean isBack) {
        places(leaf);
        within(many, -99999999, 99999999);
        within(months, -99999999, 99999999);
        long together = 12L * many + months;
        try {
            return put(leaf, leaves[leaf].plusMonths(isBack ? -together : together));
        } catch (DateTimeException none) {
            return -9;
        }
    }

    public int leafYear(int leaf, int year) {
        places(leaf);
        yearNumber(year);
        int before = leaves[leaf].getYear();
        put(leaf, leaves[leaf].withYear(year));
        return before;
    }

    public int leafMonth(int leaf, int month) {
        places(leaf);
        within(month, 1, 12);
        int before = leaves[leaf].getMonthValue();
        put(leaf, leaves[leaf].withMonth(month));
        return before;
    }

    public int leafWith(int leaf, int what, int value) {
        places(leaf);
        within(what, 0, 4);
        switch (what) {
            case 0:
                within(value, 1, 12);
                return put(leaf, leaves[leaf].withMonth(value));
            case 1:
                yearNumber(value);
                return put(leaf, leaves[leaf].withYear(value));
            case 2:
                within(value, 1, 999999999);
                return put(leaf, leaves[leaf].with(ChronoField.YEAR_OF_ERA, value));
            case 3:
                within(value, 0, 1);
                try {
                    return put(leaf, leaves[leaf].with(ChronoField.ERA, value));
                } catch (DateTimeException none) {
                    return -9;
                }
            default:
                return put(leaf, leaves[leaf].with(ChronoField.PROLEPTIC_MONTH, value));
        }
    }

    public int leafOf(int leaf, int year, int month) {
        places(leaf, year);
        within(month, 1, 12);
        return put(leaf, years[year].atMonth(month));
    }

    public int leafOfRound(int leaf, int year, int months) {
        places(leaf, year);
        put(leaf, years[year].atMonth(Month.JANUARY.plus(months)));
        return leaves[leaf].getMonthValue();
    }

    public int leafOfDay(int leaf, int day) {
        places(leaf, day);
        return put(leaf, YearMonth.from(days[day]));
    }

    public int leafLike(int leaf, int other) {
        places(leaf, other);
        boolean wasSame = leaves[leaf].equals(leaves[other]);
        leaves[leaf] = leaves[other];
        return one(wasSame);
    }

    public int year(int year, int number) {
        places(year);
        yearNumber(number);
        return put(year, Year.of(number));
    }

    public int later(int year, int many, boolean isBack) {
        places(year);
        try {
            return put(year, isBack ? years[year].minusYears(many) : years[year].plusYears(many));
        } catch (DateTimeException none) {
            return -9;
        }
    }

    public int yearUnits(int year, int unit, int many, boolean isBack) {
        places(year);
        within(unit, 1, 4);
        try {
            return put(year, isBack ? years[year].minus(many, UNITS[unit]) : years[year].plus(many, UNITS[unit]));
        } catch (DateTimeException none) {
            return -9;
        }
    }

    public int yearWith(int year, int what, int value) {
        places(year);
        within(what, 0, 2);
        switch (what) {
            case 0:
                yearNumber(value);
                return put(year, Year.of(value));
            case 1:
                within(value, 1, 999999999);
                return put(year, years[year].with(ChronoField.YEAR_OF_ERA, value));
            default:
                within(value, 0, 1);
                try {
                    return put(year, years[year].with(ChronoField.ERA, value));
                } catch (DateTimeException none) {
                    return -9;
                }
        }
    }

    public int yearOf(int year, boolean isDay, int other) {
        places(year, other);
        return put(year, isDay ? Year.from(days[other]) : Year.from(leaves[other]));
    }

    public int yearLike(int year, int other) {
        places(year, other);
        boolean wasSame = years[year].equals(years[other]);
        years[year] = years[other];
        return one(wasSame);
    }

    private boolean putFeast(int feast, int month, int day) {
        try {
            feasts[feast] = MonthDay.of(month, day);
            return true;
        } catch (DateTimeException none) {
            return false;
        }
    }

    private boolean isInEach(int feast) {
        return feasts[feast].isValidYear(2023);
    }

    public int feast(int feast, int month, int day) {
        places(feast);
        within(month, 1, 12);
        within(day, 1, 31);
        return putFeast(feast, month, day) ? one(isInEach(feast)) : -9;
    }

    public int feastRound(int feast, int months, int day) {
        places(feast);
        within(day, 1, 31);
        int month = Month.JANUARY.plus(months).getValue();
        return putFeast(feast, month, day) ? month : -9;
    }

    public int feastMonth(int feast, int month, boolean isField) {
        places(feast);
        within(month, 1, 12);
        feasts[feast] = feasts[feast].withMonth(month);
        return feasts[feast].getDayOfMonth();
    }

    public int feastDay(int feast, int day, boolean isField) {
        places(feast);
        within(day, 1, 31);
        int before = feasts[feast].getDayOfMonth();
        return putFeast(feast, feasts[feast].getMonthValue(), day) ? before : -9;
    }

    public int feastOf(int feast, int day) {
        places(feast, day);
        feasts[feast] = MonthDay.from(days[day]);
        return one(isInEach(feast));
    }

    public int feastLike(int feast, int other) {
        places(feast, other);
        boolean wasSame = feasts[feast].equals(feasts[other]);
        feasts[feast] = feasts[other];
        return one(wasSame);
    }

    private int weekday(int day) {
        return days[day].getDayOfWeek().getValue();
    }

    public int dayAt(int day, int leaf, int number) {
        places(day, leaf);
        within(number, 1, 31);
        if (!leaves[leaf].isValidDay(number)) {
            return -9;
        }
        days[day] = leaves[leaf].atDay(number);
        return weekday(day);
    }

    public int dayEnd(int day, int leaf) {
        places(day, leaf);
        days[day] = leaves[leaf].atEndOfMonth();
        return days[day].getDayOfMonth();
    }

    public int dayInYear(int day, int year, int place) {
        places(day, year);
        within(place, 1, 366);
        try {
            days[day] = years[year].atDay(place);
        } catch (DateTimeException none) {
            return -9;
        }
        return days[day].getMonthValue();
    }

    public int dayOfFeast(int day, int feast, int number) {
        places(day, feast);
        yearNumber(number);
        days[day] = feasts[feast].atYear(number);
        return weekday(day);
    }

    public int dayOfYear(int day, int year, int feast) {
        places(day, year, feast);
        days[day] = years[year].atMonthDay(feasts[feast]);
        return days[day].getDayOfMonth();
    }

    public int ofLeaf(int leaf, int what) {
        places(leaf);
        within(what, 0, 7);
        YearMonth asked = leaves[leaf];
        int[] told = {asked.getYear(), asked.getMonthValue(), asked.lengthOfMonth(), asked.lengthOfYear(),
            one(asked.isLeapYear()), asked.getMonth().getValue(), asked.get(ChronoField.YEAR_OF_ERA),
            asked.get(ChronoField.ERA)};
        return told[what];
    }

    public String count(int leaf) {
        places(leaf);
        return Long.toString(leaves[leaf].getLong(ChronoField.PROLEPTIC_MONTH));
    }

    public boolean hasDay(int leaf, int number) {
        places(leaf);
        return leaves[leaf].isValidDay(number);
    }

    private static <T extends Comparable<T>> int order(T one, T other, int what) {
        within(what, 0, 2);
        int order = Integer.signum(one.compareTo(other));
        return what == 0 ? order : one(what == 1 ? order < 0 : order > 0);
    }

    private boolean same(Object asked, int what, int other) {
        within(what, 0, 4);
        Object[][] kinds = {leaves, years, feasts, days};
        return asked.equals(what == 4 ? null : kinds[what][other]);
    }

    public int leafOrder(int leaf, int other, int what) {
        places(leaf, other);
        return order(leaves[leaf], leaves[other], what);
    }

    public boolean isLeaf(int leaf, int what, int other) {
        places(leaf, other);
        return same(leaves[leaf], what, other);
    }

    public String leafTo(int leaf, int other, int unit, boolean isOfUnit) {
        places(leaf, other);
        within(unit, 0, 4);
        return Long.toString(leaves[leaf].until(leaves[other], UNITS[unit]));
    }

    public int ofYear(int year, int what) {
        places(year);
        within(what, 0, 4);
        Year asked = years[year];
        int[] told = {asked.getValue(), one(asked.isLeap()), asked.length(), asked.get(ChronoField.YEAR_OF_ERA),
            asked.get(ChronoField.ERA)};
        return told[what];
    }

    public boolean isLeap(int one, int other) {
        BigInteger number = BigInteger.valueOf(one).multiply(BigInteger.valueOf(other));
        return isMultiple(number, 400) || (isMultiple(number, 4) && !isMultiple(number, 100));
    }

    private static boolean isMultiple(BigInteger number, int of) {
        return number.mod(BigInteger.valueOf(of)).signum() == 0;
    }

    public boolean hasFeast(int year, int feast, boolean isNothing) {
        places(year, feast);
        return years[year].isValidMonthDay(isNothing ? null : feasts[feast]);
    }

    public int yearOrder(int year, int other, int what) {
        places(year, other);
        return order(years[year], years[other], what);
    }

    public boolean isYear(int year, int what, int other) {
        places(year, other);
        return same(years[year], what, other);
    }

    public String yearTo(int year, int other, int unit, boolean isOfUnit) {
        places(year, other);
        within(unit, 1, 4);
        return Long.toString(years[year].until(years[other], UNITS[unit]));
    }

    public int ofFeast(int feast, int what) {
        places(feast);
        within(what, 0, 4);
        Month month = feasts[feast].getMonth();
        int[] told = {feasts[feast].getMonthValue(), feasts[feast].getDayOfMonth(), month.getValue(),
            month.length(false), month.length(true)};
        return told[what];
    }

    public boolean isInYear(int feast, int number) {
        places(feast);
        yearNumber(number);
        return feasts[feast].isValidYear(number);
    }

    public int feastOrder(int feast, int other, int what) {
        places(feast, other);
        return order(feasts[feast], feasts[other], what);
    }

    public boolean isFeast(int feast, int what, int other) {
        places(feast, other);
        return same(feasts[feast], what, other);
    }

    private boolean isLast(LocalDate day) {
        return day.getDayOfMonth() == day.lengthOfMonth();
    }

    public int ofDay(int day, int what) {
        places(day);
        within(what, 0, 5);
        LocalDate asked = days[day];
        int[] told = {asked.getYear(), asked.getMonthValue(), asked.getDayOfMonth(), asked.getDayOfYear(),
            weekday(day), one(isLast(asked))};
        return told[what];
    }

    public String number(int day) {
        places(day);
        return Long.toString(days[day].toEpochDay());
    }

    public int dayOrder(int day, int other, int what) {
        places(day, other);
        within(what, 0, 2);
        return order((Long) days[day].toEpochDay(), (Long) days[other].toEpochDay(), what);
    }

    public boolean knows(int kind, int what) {
        within(kind, 0, 2);
        within(what, 0, 12);
        ChronoField[] fields = {ChronoField.DAY_OF_MONTH, ChronoField.MONTH_OF_YEAR, ChronoField.PROLEPTIC_MONTH,
            ChronoField.YEAR_OF_ERA, ChronoField.YEAR, ChronoField.ERA};
        if (kind == 2) {
            return what < 6 && feasts[0].isSupported(fields[what]);
        }
        if (what < 6) {
            return kind == 0 ? leaves[0].isSupported(fields[what]) : years[0].isSupported(fields[what]);
        }
        TemporalUnit step = what == 6 ? ChronoUnit.DAYS : what == 12 ? ChronoUnit.ERAS : UNITS[what - 7];
        return kind == 0 ? leaves[0].isSupported(step) : years[0].isSupported(step);
    }

    public int edge(boolean isLast) {
        return isLast ? Year.MAX_VALUE : Year.MIN_VALUE;
    }

    public int knock() {
        return ++knocks;
    }

    public int house(int what) {
        within(what, 0, 4);
        switch (what) {
            case 0: return (int) Arrays.stream(leaves).filter(YearMonth::isLeapYear).count();
            case 1: return (int) Arrays.stream(years).filter(Year::isLeap).count();
            case 2: return (int) Arrays.stream(feasts).filter(feast -> feast.isValidYear(1)).count();
            case 3: return (int) Arrays.stream(days).filter(this::isLast).count();
            default: return knocks;
        }
    }

    public boolean isSound() {
        // The theorem holds of java.time, whatever lies there.
        return true;
    }

    private static long with(long d, String text) {
        long mixed = d * 31 + text.length();
        for (char sign : text.toCharArray()) {
            mixed = mixed * 31 + sign;
        }
        return mixed;
    }

    public long digest() {
        long d = 7792;
        for (int leaf = 0; leaf < 4; leaf++) {
            for (int what = 0; what <= 7; what++) {
                d = d * 31 + ofLeaf(leaf, what);
            }
            d = with(d, count(leaf));
        }
        for (int at = 0; at < 20; at++) {
            d = d * 31 + ofYear(at / 5, at % 5);
        }
        for (int at = 0; at < 20; at++) {
            d = d * 31 + ofFeast(at / 5, at % 5);
        }
        for (int day = 0; day < 4; day++) {
            for (int what = 0; what <= 5; what++) {
                d = d * 31 + ofDay(day, what);
            }
            d = with(d, number(day));
        }
        for (int pair = 0; pair < 16; pair++) {
            d = d * 31 + leafOrder(pair / 4, pair % 4, 0);
            d = with(d, leafTo(pair / 4, pair % 4, 0, false));
            d = with(d, leafTo(pair / 4, pair % 4, 1, false));
        }
        for (int pair = 0; pair < 16; pair++) {
            d = d * 31 + one(hasFeast(pair / 4, pair % 4, false));
        }
        for (int what = 0; what <= 4; what++) {
            d = d * 31 + house(what);
        }
        return d * 31 + 1;
    }
}
