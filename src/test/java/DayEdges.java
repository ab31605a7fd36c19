/** The sentences of the promises 27 to 31: days come to be. */
final class DayEdges extends Edges {
    private static final int[] LENGTHS = {31, 28, 31, 30, 31, 30, 31, 31, 30, 31, 30, 31};

    private DayEdges() {
    }

    static void all() {
        promise27();
        promise28();
        promise29();
        promise30();
        promise31();
    }

    private static void promise27() {
        onlyThere(27, "The DAY with that number in the MONTH of a LEAF lies there.", DAY,
            (x, place) -> x.dayAt(place, 1, 20));
        sentence(27, "in the MONTH of a LEAF", none -> {
            int[][] leaves = {{2024, 2}, {-1, 11}, {LAST, 12}, {-LAST, 1}};
            for (int place = 0; place < 4; place++) {
                Monthyears x = mixed();
                x.dayAt(0, place, 20);
                dayIs(x, 0, leaves[place][0], leaves[place][1], 20);
                leafIs(x, place, leaves[place][0], leaves[place][1]);
            }
        });
        sentence(27, "`number`: the number in the MONTH", x -> {
            for (int number = 1; number <= 31; number++) {
                x.dayAt(3, 2, number);
                dayIs(x, 3, 0, 1, number);
            }
        });
        sentence(27, "Returns its WEEKDAY", x -> {
            x.leaf(0, 2000, 1);
            due("6 7 1", told(x.dayAt(0, 0, 1), x.dayAt(0, 0, 2), x.dayAt(0, 0, 3)));
            x.leaf(0, 2024, 2);
            due("3 4", told(x.dayAt(0, 0, 28), x.dayAt(0, 0, 29)));
            x.leaf(0, 2024, 3);
            due(5, x.dayAt(0, 0, 1));
            x.leaf(0, 0, 1);
            due(6, x.dayAt(0, 0, 1));
            x.leaf(0, -LAST, 1);
            due(1, x.dayAt(0, 0, 1));
            x.leaf(0, LAST, 12);
            due(5, x.dayAt(0, 0, 31));
        });
        sentence(27, "-9 if the LEAF has no such day.", none -> {
            int[][] leaves = {{2023, 2, 28}, {2024, 2, 29}, {1900, 2, 28}, {2000, 2, 29}, {0, 2, 29}, {-1, 2, 28},
                {2023, 4, 30}, {2023, 6, 30}, {2023, 9, 30}, {-LAST, 2, 28}, {LAST, 11, 30}};
            for (int[] leaf : leaves) {
                Monthyears x = mixed();
                x.leaf(0, leaf[0], leaf[1]);
                for (int number = leaf[2] + 1; number <= 31; number++) {
                    int beyond = number;
                    refused(x, y -> y.dayAt(1, 0, beyond));
                }
                due(false, x.dayAt(1, 0, leaf[2]) == -9);
                dayIs(x, 1, leaf[0], leaf[1], leaf[2]);
            }
        });
        places(27, "if there is no such DAY", (x, place) -> x.dayAt(place, 0, 5));
        places(27, "or LEAF", (x, place) -> x.dayAt(0, place, 5));
        bounds(27, "if number is not 1 to 31", 1, 31, (x, number) -> x.dayAt(0, 2, number));
        bounds(27, "if number is not 1 to 31", 1, 31, (x, number) -> x.dayAt(1, 0, number));
        placeFirst(27, x -> x.dayAt(4, 0, 32), x -> x.dayAt(0, 4, 0), x -> x.dayAt(4, 0, 30),
            x -> x.dayAt(-1, -1, LEAST));
    }

    private static void promise28() {
        onlyThere(28, "The last DAY of a LEAF lies there.", DAY, (x, place) -> x.dayEnd(place, 1));
        sentence(28, "The last DAY of a LEAF", x -> {
            for (int month = 1; month <= 12; month++) {
                x.leaf(0, 2023, month);
                x.dayEnd(0, 0);
                dayIs(x, 0, 2023, month, LENGTHS[month - 1]);
                due(1, x.ofDay(0, 5));
            }
        });
        sentence(28, "`leaf`: the place of a LEAF", none -> {
            int[][] days = {{2024, 2, 29}, {-1, 11, 30}, {LAST, 12, 31}, {-LAST, 1, 31}};
            for (int place = 0; place < 4; place++) {
                Monthyears x = mixed();
                x.dayEnd(3, place);
                dayIs(x, 3, days[place][0], days[place][1], days[place][2]);
            }
        });
        sentence(28, "Returns its number in the MONTH.", x -> {
            int[][] ends = {{2023, 2, 28}, {2024, 2, 29}, {1900, 2, 28}, {2000, 2, 29}, {0, 2, 29}, {-1, 2, 28},
                {-4, 2, 29}, {2023, 4, 30}, {-LAST, 1, 31}, {LAST, 12, 31}, {LAST, 2, 28}};
            for (int[] end : ends) {
                x.leaf(0, end[0], end[1]);
                due(end[2], x.dayEnd(0, 0));
            }
        });
        places(28, "if there is no such DAY", (x, place) -> x.dayEnd(place, 0));
        places(28, "or LEAF", (x, place) -> x.dayEnd(0, place));
    }

    private static void promise29() {
        onlyThere(29, "The DAY with that PLACE in a YEAR lies there.", DAY, (x, place) -> x.dayInYear(place, 1, 100));
        sentence(29, "in a YEAR lies there", none -> {
            int[] years = {1900, 2000, -LAST, LAST};
            for (int place = 0; place < 4; place++) {
                Monthyears x = mixed();
                x.dayInYear(0, place, 1);
                dayIs(x, 0, years[place], 1, 1);
                x.dayInYear(0, place, 365);
                dayIs(x, 0, years[place], 12, place == 1 ? 30 : 31);
            }
        });
        sentence(29, "`place`: its PLACE", none -> {
            for (int year : new int[] {2023, 2024}) {
                int place = 0;
                for (int month = 1; month <= 12; month++) {
                    Monthyears x = new Monthyears();
                    x.year(0, year);
                    int length = month == 2 && year == 2024 ? 29 : LENGTHS[month - 1];
                    for (int number = 1; number <= length; number++) {
                        place++;
                        due(month, x.dayInYear(0, 0, place));
                        dayIs(x, 0, year, month, number);
                        due(place, x.ofDay(0, 3));
                    }
                }
            }
        });
        sentence(29, "Returns its MONTH", x -> {
            x.year(0, 2023);
            due("1 2 2 3",
                told(x.dayInYear(0, 0, 31), x.dayInYear(0, 0, 32), x.dayInYear(0, 0, 59), x.dayInYear(0, 0, 60)));
            x.year(0, 2024);
            due("2 3 12 12",
                told(x.dayInYear(0, 0, 60), x.dayInYear(0, 0, 61), x.dayInYear(0, 0, 336), x.dayInYear(0, 0, 366)));
        });
        sentence(29, "-9 if the YEAR has no such PLACE.", none -> {
            for (int year : new int[] {2023, 1900, 2100, -1, -100, 1, LAST, -LAST}) {
                Monthyears x = mixed();
                x.year(0, year);
                refused(x, y -> y.dayInYear(1, 0, 366));
                due(12, x.dayInYear(1, 0, 365));
                dayIs(x, 1, year, 12, 31);
            }
            for (int year : new int[] {2024, 2000, 0, -4, -400, 999999600}) {
                Monthyears x = mixed();
                x.year(0, year);
                due(12, x.dayInYear(1, 0, 366));
                dayIs(x, 1, year, 12, 31);
            }
        });
        places(29, "if there is no such DAY", (x, place) -> x.dayInYear(place, 0, 5));
        places(29, "or YEAR", (x, place) -> x.dayInYear(0, place, 5));
        bounds(29, "if place is not 1 to 366", 1, 366, (x, place) -> x.dayInYear(0, 1, place));
        bounds(29, "if place is not 1 to 366", 1, 366, (x, place) -> x.dayInYear(0, 0, place));
        placeFirst(29, x -> x.dayInYear(4, 0, 367), x -> x.dayInYear(0, 4, 0), x -> x.dayInYear(4, 0, 366),
            x -> x.dayInYear(-1, -1, LEAST));
    }

    private static void promise30() {
        onlyThere(30, "The DAY of a FEAST in the YEAR with that number lies there.", DAY,
            (x, place) -> x.dayOfFeast(place, 1, 5));
        sentence(30, "of a FEAST", none -> {
            int[][] days = {{2, 29}, {4, 30}, {12, 31}, {2, 1}};
            for (int place = 0; place < 4; place++) {
                Monthyears x = mixed();
                x.dayOfFeast(0, place, 2024);
                dayIs(x, 0, 2024, days[place][0], days[place][1]);
                x.dayOfFeast(0, place, 2023);
                dayIs(x, 0, 2023, days[place][0], place == 0 ? 28 : days[place][1]);
                feastIs(x, place, days[place][0], days[place][1]);
            }
        });
        sentence(30, "`number`: the number of the YEAR", x -> {
            x.feast(0, 2, 29);
            int[][] years = {{-LAST, 28}, {-100, 28}, {-4, 29}, {-1, 28}, {0, 29}, {1, 28}, {1900, 28}, {2000, 29},
                {LAST, 28}};
            for (int[] year : years) {
                x.dayOfFeast(0, 0, year[0]);
                dayIs(x, 0, year[0], 2, year[1]);
            }
            x.dayOfFeast(0, 1, -LAST);
            dayIs(x, 0, -LAST, 1, 1);
            x.feast(1, 12, 31);
            x.dayOfFeast(0, 1, LAST);
            dayIs(x, 0, LAST, 12, 31);
        });
        sentence(30, "Returns its WEEKDAY.", x -> {
            x.feast(1, 2, 29);
            x.feast(2, 12, 31);
            due("2 4", told(x.dayOfFeast(0, 1, 2023), x.dayOfFeast(0, 1, 2024)));
            due("5 1", told(x.dayOfFeast(0, 2, LAST), x.dayOfFeast(0, 0, -LAST)));
            due("4 3", told(x.dayOfFeast(0, 0, 1970), x.dayOfFeast(0, 2, 1969)));
            due("7 1", told(x.dayOfFeast(0, 2, 2023), x.dayOfFeast(0, 0, 2024)));
        });
        places(30, "if there is no such DAY", (x, place) -> x.dayOfFeast(place, 0, 5));
        places(30, "or FEAST", (x, place) -> x.dayOfFeast(0, place, 5));
        bounds(30, "if number is not -999999999 to 999999999", -LAST, LAST, (x, number) -> x.dayOfFeast(0, 0, number));
        bounds(30, "if number is not -999999999 to 999999999", -LAST, LAST, (x, number) -> x.dayOfFeast(0, 1, number));
        placeFirst(30, x -> x.dayOfFeast(4, 0, LAST + 1), x -> x.dayOfFeast(0, 4, -LAST - 1),
            x -> x.dayOfFeast(-1, -1, LEAST));
    }

    private static void promise31() {
        onlyThere(31, "The DAY of a FEAST in a YEAR of the shelf lies there.", DAY,
            (x, place) -> x.dayOfYear(place, 1, 1));
        sentence(31, "of a FEAST in a YEAR of the shelf", none -> {
            int[] years = {1900, 2000, -LAST, LAST};
            int[][] days = {{2, 29}, {4, 30}, {12, 31}, {2, 1}};
            for (int year = 0; year < 4; year++) {
                for (int feast = 0; feast < 4; feast++) {
                    Monthyears x = mixed();
                    x.dayOfYear(3, year, feast);
                    dayIs(x, 3, years[year], days[feast][0], feast == 0 && year != 1 ? 28 : days[feast][1]);
                    due(years[year], x.ofYear(year, 0));
                    feastIs(x, feast, days[feast][0], days[feast][1]);
                }
            }
        });
        sentence(31, "Returns its number in the MONTH.", none -> {
            Monthyears x = mixed();
            due("28 29 28 28",
                told(x.dayOfYear(0, 0, 0), x.dayOfYear(0, 1, 0), x.dayOfYear(0, 2, 0), x.dayOfYear(0, 3, 0)));
            due("30 31 1 31",
                told(x.dayOfYear(0, 0, 1), x.dayOfYear(0, 3, 2), x.dayOfYear(0, 2, 3), x.dayOfYear(0, 2, 2)));
        });
        places(31, "if there is no such DAY", (x, place) -> x.dayOfYear(place, 0, 0));
        places(31, "YEAR or FEAST", (x, place) -> x.dayOfYear(0, place, 0));
        places(31, "or FEAST", (x, place) -> x.dayOfYear(0, 0, place));
    }
}
