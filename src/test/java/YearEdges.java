/** The sentences of the promises 15 to 20: years come to be. */
final class YearEdges extends Edges {
    private static final int[] SIZES = {0, 1, 10, 100, 1000};

    private YearEdges() {
    }

    static void all() {
        promise15();
        promise16();
        promise17();
        promise18();
        promise19();
        promise20();
    }

    private static void numberIs(Monthyears x, int year, int number) {
        due(number, x.ofYear(year, 0));
    }

    private static void promise15() {
        onlyThere(15, "Another YEAR lies there.", YEAR, (x, place) -> x.year(place, 5));
        sentence(15, "`number`: its number", x -> {
            for (int number : new int[] {-LAST, -LAST + 1, -1, 0, 1, LAST - 1, LAST}) {
                x.year(3, number);
                numberIs(x, 3, number);
            }
        });
        sentence(15, "Returns how many DAYS it has.", x -> {
            due("366 365 366 365", told(x.year(0, 2024), x.year(0, 2023), x.year(0, 2000), x.year(0, 1900)));
            due("366 365 365 366", told(x.year(0, 0), x.year(0, -1), x.year(0, -100), x.year(0, -400)));
            due("365 365", told(x.year(0, LAST), x.year(0, -LAST)));
        });
        places(15, "if there is no such YEAR", (x, place) -> x.year(place, 5));
        bounds(15, "if number is not -999999999 to 999999999", -LAST, LAST, (x, number) -> x.year(0, number));
        placeFirst(15, x -> x.year(4, LAST + 1), x -> x.year(-1, LEAST));
    }

    private static void promise16() {
        onlyThere(16, "The YEAR so many on from it lies there.", YEAR, (x, place) -> x.later(place, 1, place == 3));
        sentence(16, "so many on from it", x -> {
            x.year(0, 1);
            x.later(0, 1, true);
            numberIs(x, 0, 0);
            x.later(0, 1, true);
            numberIs(x, 0, -1);
            x.later(0, 2, false);
            numberIs(x, 0, 1);
            x.later(0, 0, false);
            x.later(0, 0, true);
            numberIs(x, 0, 1);
        });
        sentence(16, "`years`: how many, any number", x -> {
            x.year(0, -LAST);
            x.year(1, LAST);
            refused(x, y -> y.later(0, MOST, false));
            refused(x, y -> y.later(0, LEAST, false));
            refused(x, y -> y.later(1, MOST, false));
            refused(x, y -> y.later(1, LEAST, false));
            due(365, x.later(0, 1999999998, false));
            numberIs(x, 0, LAST);
            due(365, x.later(0, -1999999998, false));
            numberIs(x, 0, -LAST);
        });
        sentence(16, "(so many on is as many back of the other sign)", x -> {
            x.later(0, -3, true);
            numberIs(x, 0, 3);
            x.later(0, -4, false);
            numberIs(x, 0, -1);
            x.year(0, -LAST);
            x.year(1, LAST);
            refused(x, y -> y.later(0, LEAST, true));
            refused(x, y -> y.later(0, MOST, true));
            refused(x, y -> y.later(1, LEAST, true));
            refused(x, y -> y.later(1, MOST, true));
        });
        sentence(16, "Returns how many DAYS it has then", x -> {
            x.year(0, 2024);
            due("365 366 366", told(x.later(0, 1, false), x.later(0, 1, true), x.later(0, 0, false)));
            due("366 365", told(x.later(0, -24, false), x.later(0, 100, true)));
        });
        sentence(16, "-9 if there is none", x -> {
            x.year(0, LAST);
            refused(x, y -> y.later(0, 1, false));
            refused(x, y -> y.later(0, -1, true));
            x.year(1, -LAST);
            refused(x, y -> y.later(1, 1, true));
            refused(x, y -> y.later(1, -1, false));
            refused(x, y -> y.later(1, 1999999999, false));
            x.year(2, LAST - 1);
            due(365, x.later(2, 1, false));
            x.year(3, 1 - LAST);
            due(365, x.later(3, 1, true));
        });
        places(16, "if there is no such YEAR", (x, place) -> x.later(place, 0, false));
        placeFirst(16, x -> x.later(4, MOST, false), x -> x.later(-1, LEAST, true));
    }

    private static void promise17() {
        onlyThere(17, "The YEAR so many UNITS on from it lies there.", YEAR,
            (x, place) -> x.yearUnits(place, 2, 1, place == 3));
        sentence(17, "so many UNITS on from it", x -> {
            for (int unit = 1; unit <= 4; unit++) {
                x.year(0, 0);
                x.yearUnits(0, unit, 3, true);
                numberIs(x, 0, -3 * SIZES[unit]);
                x.yearUnits(0, unit, 4, false);
                numberIs(x, 0, SIZES[unit]);
                x.yearUnits(0, unit, 0, true);
                numberIs(x, 0, SIZES[unit]);
            }
        });
        sentence(17, "`many`: how many, any number", none -> {
            for (int unit = 1; unit <= 4; unit++) {
                int of = unit;
                Monthyears x = mixed();
                refused(x, y -> y.yearUnits(0, of, MOST, false));
                refused(x, y -> y.yearUnits(0, of, LEAST, false));
                refused(x, y -> y.yearUnits(2, of, MOST, false));
                refused(x, y -> y.yearUnits(3, of, LEAST, false));
            }
        });
        sentence(17, "(so many on is as many back of the other sign)", x -> {
            x.yearUnits(0, 3, -2, true);
            numberIs(x, 0, 200);
            x.yearUnits(0, 3, -3, false);
            numberIs(x, 0, -100);
            for (int unit = 1; unit <= 4; unit++) {
                int of = unit;
                Monthyears y = mixed();
                refused(y, z -> z.yearUnits(0, of, MOST, true));
                refused(y, z -> z.yearUnits(0, of, LEAST, true));
                refused(y, z -> z.yearUnits(2, of, LEAST, true));
                refused(y, z -> z.yearUnits(3, of, MOST, true));
            }
        });
        sentence(17, "Returns how many DAYS it has then", x -> {
            x.year(0, 2000);
            due("365 366 365",
                told(x.yearUnits(0, 1, 1, false), x.yearUnits(0, 1, 1, true), x.yearUnits(0, 3, 1, true)));
            due("366 365", told(x.yearUnits(0, 3, -5, true), x.yearUnits(0, 2, 1, false)));
        });
        int[] mostFromFirst = {0, 1999999998, 199999999, 19999999, 1999999};
        sentence(17, "-9 if there is none", none -> {
            for (int unit = 1; unit <= 4; unit++) {
                int of = unit;
                int most = mostFromFirst[unit];
                Monthyears x = new Monthyears();
                x.year(0, -LAST);
                refused(x, y -> y.yearUnits(0, of, most + 1, false));
                refused(x, y -> y.yearUnits(0, of, 1, true));
                due(false, x.yearUnits(0, of, most, false) == -9);
                x.year(1, LAST);
                refused(x, y -> y.yearUnits(1, of, most + 1, true));
                refused(x, y -> y.yearUnits(1, of, -1, true));
                due(false, x.yearUnits(1, of, most, true) == -9);
                x.year(2, LAST - SIZES[unit]);
                due(365, x.yearUnits(2, of, 1, false));
                numberIs(x, 2, LAST);
                x.year(3, SIZES[unit] - LAST);
                due(365, x.yearUnits(3, of, 1, true));
                numberIs(x, 3, -LAST);
            }
        });
        places(17, "if there is no such YEAR", (x, place) -> x.yearUnits(place, 1, 0, false));
        bounds(17, "`unit`: the UNIT, 1 to 4", 1, 4, (x, unit) -> x.yearUnits(0, unit, 1, true));
        bounds(17, "if unit is not 1 to 4", 1, 4, (x, unit) -> x.yearUnits(0, unit, 0, false));
        placeFirst(17, x -> x.yearUnits(4, 0, 1, false), x -> x.yearUnits(-1, 5, MOST, true));
        sentence(17, "Throws `IllegalArgumentException`", none -> {
            noArgument(x -> x.yearUnits(3, 5, 1, false));
            noArgument(x -> x.yearUnits(2, 0, 1, true));
        });
    }

    private static void promise18() {
        onlyThere(18, "One thing of a YEAR becomes another one", YEAR, (x, place) -> x.yearWith(place, 0, 5));
        sentence(18, "0 its number (-999999999 to 999999999)", x -> {
            for (int number : new int[] {-LAST, -1, 0, 1, LAST}) {
                x.yearWith(0, 0, number);
                numberIs(x, 0, number);
            }
        });
        sentence(18, "1 its RANK (1 to 999999999; the SIDE stays)", x -> {
            int[][] ranks = {{1, 1, 1}, {1, 2, 2}, {1, LAST, LAST}, {0, 1, 0}, {0, 2, -1}, {0, LAST, 1 - LAST},
                {-LAST, 1, 0}, {-LAST, LAST, 1 - LAST}, {LAST, 1, 1}};
            for (int[] told : ranks) {
                x.year(0, told[0]);
                due(false, x.yearWith(0, 1, told[1]) == -9);
                numberIs(x, 0, told[2]);
            }
        });
        sentence(18, "2 its SIDE (0 or 1; the RANK stays)", x -> {
            int[][] sides = {{1, 0, 0}, {0, 1, 1}, {2, 0, -1}, {-1, 1, 2}, {5, 1, 5}, {-5, 0, -5}, {0, 0, 0}, {1, 1, 1},
                {LAST, 0, 1 - LAST}, {LAST, 1, LAST}, {-LAST, 0, -LAST}};
            for (int[] told : sides) {
                x.year(0, told[0]);
                due(false, x.yearWith(0, 2, told[1]) == -9);
                numberIs(x, 0, told[2]);
            }
        });
        sentence(18, "`what`: which one", x -> {
            int[] numbers = {1, 0, 6};
            for (int what = 0; what <= 2; what++) {
                x.year(0, -5);
                x.yearWith(0, what, 1);
                numberIs(x, 0, numbers[what]);
            }
        });
        sentence(18, "`value`: what it is then", x -> {
            int[] asked = {0, 3, 4};
            for (int what = 0; what <= 2; what++) {
                x.yearWith(0, what, 1);
                due(1, x.ofYear(0, asked[what]));
            }
        });
        sentence(18, "Returns how many DAYS it has then", x -> {
            due("365 366 365 366",
                told(x.yearWith(0, 0, 5), x.yearWith(0, 2, 0), x.yearWith(0, 1, 4), x.yearWith(0, 1, 1)));
        });
        sentence(18, "-9 if there is no YEAR with that RANK on that SIDE.", x -> {
            x.year(0, -LAST);
            refused(x, y -> y.yearWith(0, 2, 1));
            x.year(1, 1 - LAST);
            due(365, x.yearWith(1, 2, 1));
            numberIs(x, 1, LAST);
        });
        places(18, "if there is no such YEAR", (x, place) -> x.yearWith(place, 0, 5));
        bounds(18, "if what is not 0 to 2", 0, 2, (x, what) -> x.yearWith(0, what, 1));
        bounds(18, "or value is not as it is told for it", -LAST, LAST, (x, value) -> x.yearWith(0, 0, value));
        bounds(18, "or value is not as it is told for it", 1, LAST, (x, value) -> x.yearWith(0, 1, value));
        bounds(18, "or value is not as it is told for it", 1, LAST, (x, value) -> x.yearWith(2, 1, value));
        bounds(18, "or value is not as it is told for it", 0, 1, (x, value) -> x.yearWith(0, 2, value));
        placeFirst(18, x -> x.yearWith(4, 3, 1), x -> x.yearWith(-1, 0, LAST + 1), x -> x.yearWith(4, 2, 2));
        sentence(18, "Throws `IllegalArgumentException`", none -> {
            noArgument(x -> x.yearWith(2, 2, 2));
            noArgument(x -> x.yearWith(2, 2, -1));
            noArgument(x -> x.yearWith(2, 1, LAST + 1));
        });
    }

    private static void promise19() {
        onlyThere(19, "The YEAR of a LEAF, or of a DAY, lies there.", YEAR,
            (x, place) -> x.yearOf(place, place < 2, 1));
        sentence(19, "The YEAR of a LEAF", x -> {
            int[][] leaves = {{-LAST, 1}, {-LAST, 12}, {-1, 1}, {-1, 12}, {0, 1}, {0, 12}, {1, 1}, {LAST, 1},
                {LAST, 12}};
            for (int[] leaf : leaves) {
                x.leaf(2, leaf[0], leaf[1]);
                x.yearOf(1, false, 2);
                numberIs(x, 1, leaf[0]);
            }
        });
        sentence(19, "or of a DAY", x -> {
            int[][] months = {{-LAST, 1}, {-LAST, 12}, {-1, 1}, {-1, 12}, {0, 1}, {0, 12}, {1, 1}, {LAST, 1},
                {LAST, 12}};
            for (int[] month : months) {
                x.leaf(0, month[0], month[1]);
                x.dayEnd(2, 0);
                x.leaf(0, 5, 5);
                x.yearOf(1, true, 2);
                numberIs(x, 1, month[0]);
            }
        });
        sentence(19, "`isDay`: whether of a DAY, otherwise of a LEAF", x -> {
            x.leaf(3, 1999, 12);
            x.dayEnd(3, 3);
            x.leaf(3, 2001, 1);
            x.yearOf(0, true, 3);
            numberIs(x, 0, 1999);
            x.yearOf(0, false, 3);
            numberIs(x, 0, 2001);
        });
        sentence(19, "`other`: its place", none -> {
            int[] years = {2024, -1, LAST, -LAST};
            for (int place = 0; place < 4; place++) {
                for (boolean isDay : BOTH) {
                    Monthyears x = mixed();
                    x.yearOf(0, isDay, place);
                    numberIs(x, 0, years[place]);
                }
            }
        });
        sentence(19, "Returns how many DAYS it has.", none -> {
            Monthyears x = mixed();
            for (boolean isDay : BOTH) {
                due("366 365 365", told(x.yearOf(0, isDay, 0), x.yearOf(0, isDay, 1), x.yearOf(0, isDay, 2)));
            }
        });
        for (boolean isDay : BOTH) {
            places(19, "if there is no such YEAR", (x, place) -> x.yearOf(place, isDay, 0));
            places(19, "or other is not 0 to 3", (x, place) -> x.yearOf(0, isDay, place));
        }
    }

    private static void promise20() {
        onlyThere(20, "The same YEAR lies there as on another place.", YEAR,
            (x, place) -> x.yearLike(place, place == 0 ? 1 : 0));
        sentence(20, "The same YEAR", none -> {
            for (int other = 0; other < 4; other++) {
                Monthyears x = mixed();
                int number = x.ofYear(other, 0);
                x.yearLike(3 - other, other);
                numberIs(x, 3 - other, number);
                numberIs(x, other, number);
            }
        });
        sentence(20, "`other`: another one (or the same)", none -> {
            for (int place = 0; place < 4; place++) {
                int at = place;
                still(mixed(), 1, x -> x.yearLike(at, at));
            }
        });
        sentence(20, "Returns 1 if they were the same already, otherwise 0.", x -> {
            due(1, x.yearLike(0, 3));
            x.year(0, LAST);
            x.year(3, LAST - 1);
            due("0 1 1", told(x.yearLike(0, 3), x.yearLike(0, 3), x.yearLike(3, 0)));
            x.year(0, 5);
            x.year(3, -5);
            due(0, x.yearLike(3, 0));
        });
        places(20, "if there is no such YEAR (both)", (x, place) -> x.yearLike(place, 0));
        places(20, "if there is no such YEAR (both)", (x, place) -> x.yearLike(0, place));
    }
}
