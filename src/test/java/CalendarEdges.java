/** The sentences of the Description: what every method rests on. */
final class CalendarEdges extends Edges {
    private static final int[] LENGTHS = {31, 28, 31, 30, 31, 30, 31, 31, 30, 31, 30, 31};

    private CalendarEdges() {
    }

    static void all() {
        generalRules();
        years();
        sides();
        months();
        days();
        weekdays();
        atFirst();
        leavesOnTheShelf();
        feastsOnTheShelf();
        orders();
        kinds();
        unitsOn();
        unitsBetween();
    }

    private static void generalRules() {
        sentence(0, "A method that throws an exception changes nothing", none -> {
            Call[] wrong = {
                x -> x.leaf(0, 5, 13), x -> x.leafRound(0, LAST + 1, 5), x -> x.months(4, 5, false),
                x -> x.years(4, 5, false), x -> x.units(0, 5, 5, false), x -> x.both(0, 1, 100000000, false),
                x -> x.leafYear(0, LAST + 1), x -> x.leafMonth(0, 13), x -> x.leafWith(0, 3, 2),
                x -> x.leafOf(0, 1, 13),
                x -> x.leafOfRound(0, 4, 1), x -> x.leafOfDay(0, 4), x -> x.leafLike(0, 4), x -> x.year(0, LAST + 1),
                x -> x.later(4, 1, false), x -> x.yearUnits(0, 5, 1, false), x -> x.yearWith(0, 1, 0),
                x -> x.yearOf(0, true, 4), x -> x.yearLike(0, 4), x -> x.feast(0, 1, 32), x -> x.feastRound(0, 1, 0),
                x -> x.feastMonth(0, 13, true), x -> x.feastDay(0, 32, true), x -> x.feastOf(0, 4),
                x -> x.feastLike(0, 4), x -> x.dayAt(0, 1, 32), x -> x.dayEnd(0, 4), x -> x.dayInYear(0, 1, 367),
                x -> x.dayOfFeast(0, 1, LAST + 1), x -> x.dayOfYear(0, 1, 4)};
            for (Call call : wrong) {
                Monthyears x = mixed();
                Object got = Checks.answer(() -> call.on(x));
                due(true, got instanceof Class);
                due(String.join(", ", lying(mixed())), String.join(", ", lying(x)));
            }
        });
        sentence(0, "the one that is named first is thrown", none -> {
            noIndex(x -> x.leaf(4, LAST + 1, 13));
            noIndex(x -> x.dayOfFeast(0, -1, LAST + 1));
        });
        sentence(0, "exceptions go ahead of -9", none -> {
            noIndex(x -> x.months(4, MOST, false));
            noArgument(x -> x.feast(0, 2, 32));
            noArgument(x -> x.leafWith(3, 3, 2));
        });
        sentence(0, "-9 (REFUSED) is told where a call is let, but cannot be done", none -> {
            refused(mixed(), x -> x.months(2, 1, false));
            refused(mixed(), x -> x.feast(0, 2, 30));
            refused(mixed(), x -> x.dayInYear(0, 0, 366));
        });
        sentence(0, "has its digits alone, with \"-\" ahead if it is below 0", x -> {
            due("0", x.count(0));
            x.months(0, 12, true);
            due("-12", x.count(0));
            due("-1", x.leafTo(1, 0, 1, false));
            due("1", x.leafTo(0, 1, 1, false));
            x.months(0, 1, false);
            due("0", x.leafTo(1, 0, 1, false));
            due("-719528", x.number(0));
            x.leafWith(0, 4, 1000000000);
            due("1000000000", x.count(0));
        });
    }

    private static void years() {
        sentence(0, "YEARS have the numbers -999999999 to 999999999", none -> {
            for (int number : new int[] {-LAST, -LAST + 1, -1, 0, 1, LAST - 1, LAST}) {
                Monthyears x = new Monthyears();
                x.year(1, number);
                due(number, x.ofYear(1, 0));
            }
            noArgument(x -> x.year(1, -LAST - 1));
            noArgument(x -> x.year(1, LAST + 1));
        });
        sentence(0, "there is a YEAR 0, and those below 0 go on by the same rule", x -> {
            x.leaf(0, 1, 1);
            x.months(0, 1, true);
            leafIs(x, 0, 0, 12);
            x.years(0, 1, true);
            leafIs(x, 0, -1, 12);
            due(365, x.year(0, -1));
            due(365, x.year(0, -3));
            due(366, x.year(0, -4));
            due(365, x.year(0, -5));
        });
        leapRule("a multiple of 400", new int[] {-800, -400, 0, 400, 1600, 2000, 999999600, -999999600}, 366);
        leapRule("or a multiple of 4 and not of 100",
            new int[] {-96, -8, -4, 4, 8, 96, 104, 2024, 999999996, -999999996}, 366);
        leapRule("and not of 100", new int[] {-300, -200, -100, 100, 200, 300, 1900, 2100, 999999900, -999999900}, 365);
        leapRule("A YEAR is LEAP, if", new int[] {-LAST, -399, -401, -3, -2, -1, 1, 2, 3, 399, 401, 2023, 2025, LAST},
            365);
        sentence(0, "A YEAR has 365 DAYS, a LEAP one 366", x -> {
            x.year(0, 2023);
            x.year(1, 2024);
            due(-9, x.dayInYear(0, 0, 366));
            due(12, x.dayInYear(0, 0, 365));
            due(12, x.dayInYear(0, 1, 366));
            dayIs(x, 0, 2024, 12, 31);
        });
    }

    private static void leapRule(String words, int[] numbers, int days) {
        sentence(0, words, x -> {
            for (int number : numbers) {
                due(days, x.year(2, number));
                due(days == 366 ? 1 : 0, x.ofYear(2, 1));
                due(days == 366 ? 29 : 28, x.leaf(2, number, 2));
                due(days == 366, x.isLeap(number, 1));
            }
        });
    }

    private static void sides() {
        int[][] sidesAndRanks = {{-LAST, 0, LAST + 1}, {-LAST + 1, 0, LAST}, {-2, 0, 3}, {-1, 0, 2}, {0, 0, 1},
            {1, 1, 1}, {2, 1, 2}, {LAST, 1, LAST}};
        sentence(0, "The SIDE of a YEAR is 1, if its number is above 0, otherwise 0", x -> {
            for (int[] told : sidesAndRanks) {
                x.year(0, told[0]);
                due(told[1], x.ofYear(0, 4));
            }
        });
        sentence(0, "Its RANK on its SIDE is its number on the SIDE 1, and 1 - its number on the SIDE 0", x -> {
            for (int[] told : sidesAndRanks) {
                x.year(0, told[0]);
                due(told[2], x.ofYear(0, 3));
            }
        });
    }

    private static void months() {
        sentence(0, "with a LENGTH of 31, 28 (29 in a LEAP YEAR), 31, 30, 31, 30, 31, 31, 30, 31, 30, 31 DAYS", x -> {
            for (int month = 1; month <= 12; month++) {
                due(LENGTHS[month - 1], x.leaf(0, 2023, month));
                due(month == 2 ? 29 : LENGTHS[month - 1], x.leaf(0, 2024, month));
            }
        });
        sentence(0, "-1 gives 12, 0 gives 1, 13 gives 2", x -> {
            int[][] behind = {{-1, 12}, {0, 1}, {13, 2}, {1, 2}, {11, 12}, {12, 1}, {23, 12}, {24, 1}, {-2, 11},
                {-11, 2}, {-12, 1}, {-13, 12}, {-24, 1}, {-25, 12}};
            for (int[] told : behind) {
                due(told[1], x.leafRound(0, 5, told[0]));
                due(told[1], x.leafOfRound(1, 0, told[0]));
                due(told[1], x.feastRound(2, told[0], 1));
            }
        });
        sentence(0, "which is 0 to 11, also of a number below 0", x -> {
            due(5, x.leafRound(0, 5, LEAST));
            due(6, x.leafRound(0, 5, LEAST + 1));
            due(7, x.leafRound(0, 5, MOST - 1));
            due(8, x.leafRound(0, 5, MOST));
        });
    }

    private static void days() {
        sentence(0, "a number there, from 1 to the LENGTH of that MONTH", x -> {
            for (int month = 1; month <= 12; month++) {
                int length = x.leaf(0, 2023, month);
                due(false, x.dayAt(1, 0, 1) == -9);
                dayIs(x, 1, 2023, month, 1);
                due(false, x.dayAt(1, 0, length) == -9);
                dayIs(x, 1, 2023, month, length);
                for (int number = length + 1; number <= 31; number++) {
                    due(-9, x.dayAt(1, 0, number));
                }
            }
        });
        sentence(0, "Its PLACE is which one of its YEAR it is, from 1 on", x -> {
            int[][] places = {{2023, 1, 1, 1}, {2023, 1, 31, 31}, {2023, 2, 1, 32}, {2023, 2, 28, 59}, {2023, 3, 1, 60},
                {2024, 2, 29, 60}, {2024, 3, 1, 61}, {2023, 12, 31, 365}, {2024, 12, 31, 366}, {-LAST, 1, 1, 1},
                {LAST, 12, 31, 365}};
            for (int[] told : places) {
                x.leaf(0, told[0], told[1]);
                x.dayAt(0, 0, told[2]);
                due(told[3], x.ofDay(0, 3));
            }
        });
        sentence(0, "(0 of that one; below 0 ahead of it)", x -> {
            due("0", numberOf(x, 1970, 1, 1));
            due("1", numberOf(x, 1970, 1, 2));
            due("-1", numberOf(x, 1969, 12, 31));
            due("365", numberOf(x, 1971, 1, 1));
            due("-365", numberOf(x, 1969, 1, 1));
            due("11016", numberOf(x, 2000, 2, 29));
            due("11017", numberOf(x, 2000, 3, 1));
            due("-25509", numberOf(x, 1900, 2, 28));
            due("-25508", numberOf(x, 1900, 3, 1));
            due("-719469", numberOf(x, 0, 2, 29));
            due("-719162", numberOf(x, 1, 1, 1));
            due("-719529", numberOf(x, -1, 12, 31));
            due("365241780471", numberOf(x, LAST, 12, 31));
            due("-365243219162", numberOf(x, -LAST, 1, 1));
        });
        sentence(0, "whose NUMBER is -719528", x -> due("-719528", x.number(3)));
    }

    private static String numberOf(Monthyears x, int year, int month, int number) {
        x.leaf(0, year, month);
        x.dayAt(0, 0, number);
        return x.number(0);
    }

    private static void weekdays() {
        sentence(0, "Its WEEKDAY is 1 to 7", x -> {
            x.year(0, 2023);
            for (int place = 1; place <= 200; place++) {
                x.dayInYear(0, 0, place);
                // The first DAY of 2023 is a Sunday.
                due((place + 5) % 7 + 1, x.ofDay(0, 4));
            }
        });
        sentence(0, "so 4 on the DAY with the NUMBER 0", x -> {
            x.leaf(0, 1970, 1);
            int[] weekdays = {4, 5, 6, 7, 1, 2, 3, 4};
            for (int number = 1; number <= 8; number++) {
                due(weekdays[number - 1], x.dayAt(0, 0, number));
            }
        });
        sentence(0, "a rest is 0 to 6, also of a number below 0", x -> {
            x.leaf(0, 1969, 12);
            int[] weekdays = {3, 4, 5, 6, 7, 1, 2, 3};
            for (int number = 24; number <= 31; number++) {
                due(weekdays[number - 24], x.dayAt(0, 0, number));
            }
            x.leaf(0, -LAST, 1);
            due(1, x.dayAt(0, 0, 1));
            due(7, x.dayAt(0, 0, 7));
            x.leaf(0, LAST, 12);
            due(5, x.dayAt(0, 0, 31));
        });
    }

    private static void atFirst() {
        sentence(0, "at first the MONTH 1 of the YEAR 0.", x -> {
            for (int leaf = 0; leaf < 4; leaf++) {
                leafIs(x, leaf, 0, 1);
            }
        });
        sentence(0, "at first the YEAR with the number 0.", x -> {
            for (int year = 0; year < 4; year++) {
                due(0, x.ofYear(year, 0));
            }
        });
        sentence(0, "at first the day 1 of the MONTH 1.", x -> {
            for (int feast = 0; feast < 4; feast++) {
                feastIs(x, feast, 1, 1);
            }
        });
        sentence(0, "at first the 1st of the MONTH 1 of the YEAR 0", x -> {
            for (int day = 0; day < 4; day++) {
                dayIs(x, day, 0, 1, 1);
            }
        });
        sentence(0, "a YEAR there has its own number", x -> {
            x.year(3, 7);
            due("0 0 0 7", told(x.ofYear(0, 0), x.ofYear(1, 0), x.ofYear(2, 0), x.ofYear(3, 0)));
        });
        places(0, "LEAVES 0 to 3", (x, place) -> x.count(place));
        places(0, "YEARS 0 to 3", (x, place) -> x.ofYear(place, 0));
        places(0, "FEASTS 0 to 3", (x, place) -> x.ofFeast(place, 0));
        places(0, "DAYS 0 to 3", (x, place) -> x.number(place));
    }

    private static void leavesOnTheShelf() {
        sentence(0, "Its LENGTH is that of this MONTH in this YEAR.", x -> {
            x.leaf(0, 1900, 2);
            due(28, x.ofLeaf(0, 2));
            x.leaf(0, 2000, 2);
            due(29, x.ofLeaf(0, 2));
            x.leaf(0, 2000, 4);
            due(30, x.ofLeaf(0, 2));
        });
        sentence(0, "12 times the number of its YEAR, and its MONTH, less 1", x -> {
            int[][] leaves = {{0, 1}, {0, 2}, {0, 12}, {1, 1}, {-1, 12}, {-1, 1}, {-2, 12}, {1970, 1}, {LAST, 1},
                {-LAST, 12}};
            String[] counts = {"0", "1", "11", "12", "-1", "-12", "-13", "23640", "11999999988", "-11999999977"};
            for (int leaf = 0; leaf < leaves.length; leaf++) {
                x.leaf(0, leaves[leaf][0], leaves[leaf][1]);
                due(counts[leaf], x.count(0));
            }
        });
        sentence(0, "The LEAF with the COUNT 11999999999 is the last one", x -> {
            x.leaf(0, LAST, 12);
            due("11999999999", x.count(0));
            refused(x, y -> y.months(0, 1, false));
        });
        sentence(0, "that with -11999999988 the first one", x -> {
            x.leaf(0, -LAST, 1);
            due("-11999999988", x.count(0));
            refused(x, y -> y.months(0, 1, true));
        });
    }

    private static void feastsOnTheShelf() {
        sentence(0, "1 to the LENGTH that this MONTH has in a LEAP YEAR", x -> {
            for (int month = 1; month <= 12; month++) {
                int most = month == 2 ? 29 : LENGTHS[month - 1];
                due(1, x.feast(0, month, 1));
                due(month == 2 ? 0 : 1, x.feast(0, month, most));
                for (int day = most + 1; day <= 31; day++) {
                    due(-9, x.feast(0, month, day));
                }
                feastIs(x, 0, month, most);
            }
        });
        sentence(0, "but the day 29 of the MONTH 2, which is IN LEAP YEARS alone", x -> {
            x.feast(0, 2, 29);
            x.feast(1, 2, 28);
            x.feast(2, 3, 1);
            for (int year : new int[] {2024, 2000, 0, -4}) {
                due("true true true", told(x.isInYear(0, year), x.isInYear(1, year), x.isInYear(2, year)));
            }
            for (int year : new int[] {2023, 1900, -1, LAST, -LAST}) {
                due("false true true", told(x.isInYear(0, year), x.isInYear(1, year), x.isInYear(2, year)));
            }
        });
        sentence(0, "if it is IN it, otherwise the 28th of the MONTH 2", x -> {
            x.feast(0, 2, 29);
            x.dayOfFeast(0, 0, 2023);
            dayIs(x, 0, 2023, 2, 28);
            x.dayOfFeast(0, 0, 2024);
            dayIs(x, 0, 2024, 2, 29);
            x.feast(0, 1, 29);
            x.dayOfFeast(0, 0, 2023);
            dayIs(x, 0, 2023, 1, 29);
        });
    }

    private static void orders() {
        sentence(0, "Of LEAVES the one is ahead of the other one, whose COUNT is less", x -> {
            x.leaf(0, 2023, 12);
            x.leaf(1, 2024, 1);
            due("-1 1", told(x.leafOrder(0, 1, 0), x.leafOrder(1, 0, 0)));
        });
        sentence(0, "of YEARS the one whose number is less", x -> {
            x.year(0, -2);
            x.year(1, -1);
            due("-1 1", told(x.yearOrder(0, 1, 0), x.yearOrder(1, 0, 0)));
        });
        sentence(0, "of FEASTS the one whose MONTH is less", x -> {
            x.feast(0, 1, 31);
            x.feast(1, 2, 1);
            due("-1 1", told(x.feastOrder(0, 1, 0), x.feastOrder(1, 0, 0)));
        });
        sentence(0, "or, with the same MONTH, whose day is", x -> {
            x.feast(0, 2, 28);
            x.feast(1, 2, 29);
            due("-1 1", told(x.feastOrder(0, 1, 0), x.feastOrder(1, 0, 0)));
        });
        sentence(0, "of DAYS the one whose NUMBER is less", x -> {
            x.leaf(0, 2023, 12);
            x.dayEnd(0, 0);
            x.leaf(0, 2024, 1);
            x.dayAt(1, 0, 1);
            due("-1 1", told(x.dayOrder(0, 1, 0), x.dayOrder(1, 0, 0)));
        });
        sentence(0, "Two are the same, if neither is ahead of the other one", x -> {
            due("0 0 0 0",
                told(x.leafOrder(0, 1, 0), x.yearOrder(0, 1, 0), x.feastOrder(0, 1, 0), x.dayOrder(0, 1, 0)));
            due("true true true", told(x.isLeaf(0, 0, 1), x.isYear(0, 1, 1), x.isFeast(0, 2, 1)));
        });
    }

    private static void kinds() {
        sentence(0, "is never the same as what is of another kind, nor as nothing", x -> {
            for (int what = 0; what <= 4; what++) {
                for (int place = 0; place < 4; place++) {
                    due(what == 0, x.isLeaf(0, what, place));
                    due(what == 1, x.isYear(0, what, place));
                    due(what == 2, x.isFeast(0, what, place));
                }
            }
        });
    }

    private static void unitsOn() {
        int[] years = {0, 1, 10, 100, 1000};
        sentence(0, "0 a month, 1 a YEAR (12 months), 2 ten YEARS, 3 a hundred, 4 a thousand", x -> {
            String[] counts = {"1", "12", "120", "1200", "12000"};
            for (int unit = 0; unit <= 4; unit++) {
                x.leaf(0, 0, 1);
                x.units(0, unit, 1, false);
                due(counts[unit], x.count(0));
                due("1", x.leafTo(1, 0, unit, false));
            }
        });
        sentence(0, "as many months on as they have together", x -> {
            for (int unit = 1; unit <= 4; unit++) {
                x.leaf(0, 7, 12);
                x.units(0, unit, 2, false);
                leafIs(x, 0, 7 + 2 * years[unit], 12);
            }
            x.leaf(0, 7, 12);
            x.units(0, 0, 2, false);
            leafIs(x, 0, 8, 2);
        });
        sentence(0, "from a YEAR (UNITS 1 to 4): as many YEARS", x -> {
            for (int unit = 1; unit <= 4; unit++) {
                x.year(0, 7);
                x.yearUnits(0, unit, 2, false);
                due(7 + 2 * years[unit], x.ofYear(0, 0));
            }
        });
    }

    private static void unitsBetween() {
        sentence(0, "13 months back are -1 YEARS, 11 back are 0, 25 on are 2", x -> {
            int[][] ways = {{-13, -1}, {-11, 0}, {25, 2}, {0, 0}, {1, 0}, {-1, 0}, {11, 0}, {12, 1}, {13, 1}, {-12, -1},
                {23, 1}, {24, 2}, {-23, -1}, {-24, -2}, {-25, -2}};
            for (int[] way : ways) {
                x.leaf(0, 1, 6);
                x.leafLike(1, 0);
                x.months(1, way[0], false);
                due(Integer.toString(way[1]), x.leafTo(0, 1, 1, false));
            }
        });
        sentence(0, "below 0 if that is ahead", x -> {
            x.months(1, 5, true);
            due("-5", x.leafTo(0, 1, 0, false));
            due("5", x.leafTo(1, 0, 0, false));
            x.later(1, 5, true);
            due("-5", x.yearTo(0, 1, 1, false));
            due("5", x.yearTo(1, 0, 1, false));
        });
    }
}
