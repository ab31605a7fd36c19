/** The sentences of the promises 2 to 14: leaves come to be. */
final class LeafEdges extends Edges {
    private static final int BOTH_MOST = 99999999;

    private LeafEdges() {
    }

    static void all() {
        promise2();
        promise3();
        promise4();
        promise5();
        promise6();
        promise7();
        promise8();
        promise9();
        promise10();
        promise10Sides();
        promise11();
        promise12();
        promise13();
        promise14();
    }

    private static void countIs(Monthyears x, int leaf, String count) {
        due(count, x.count(leaf));
    }

    private static void promise2() {
        onlyThere(2, "Another LEAF lies there.", LEAF, (x, place) -> x.leaf(place, 2023, 5));
        sentence(2, "`year`: the number of its YEAR", x -> {
            for (int year : new int[] {-LAST, -LAST + 1, -1, 0, 1, LAST - 1, LAST}) {
                x.leaf(0, year, 12);
                leafIs(x, 0, year, 12);
            }
        });
        sentence(2, "`month`: its MONTH", x -> {
            for (int month = 1; month <= 12; month++) {
                x.leaf(0, -LAST, month);
                leafIs(x, 0, -LAST, month);
                x.leaf(1, LAST, month);
                leafIs(x, 1, LAST, month);
            }
        });
        sentence(2, "Returns its LENGTH.", x -> {
            due("29 28 29 28", told(x.leaf(0, 2024, 2), x.leaf(0, 2023, 2), x.leaf(0, 0, 2), x.leaf(0, -1, 2)));
            due("28 29 30 31", told(x.leaf(0, 1900, 2), x.leaf(0, 2000, 2), x.leaf(0, 0, 11), x.leaf(0, LAST, 12)));
        });
        places(2, "if there is no such LEAF", (x, place) -> x.leaf(place, 2023, 5));
        bounds(2, "if year is not -999999999 to 999999999", -LAST, LAST, (x, year) -> x.leaf(0, year, 5));
        bounds(2, "or month not 1 to 12", 1, 12, (x, month) -> x.leaf(0, 2023, month));
        placeFirst(2, x -> x.leaf(4, LAST + 1, 13), x -> x.leaf(-1, 5, 0), x -> x.leaf(MOST, LEAST, 5));
    }

    private static void promise3() {
        onlyThere(3, "Another LEAF lies there", LEAF, (x, place) -> x.leafRound(place, 2023, 5));
        sentence(3, "how many months its MONTH stands behind the MONTH 1, round and round", x -> {
            int[][] behind = {{0, 1}, {11, 12}, {12, 1}, {13, 2}, {-1, 12}, {-11, 2}, {-12, 1}, {-13, 12}};
            for (int[] told : behind) {
                x.leafRound(0, 2023, told[0]);
                due(told[1], x.ofLeaf(0, 1));
            }
        });
        sentence(3, "(the YEAR stays the told one)", x -> {
            for (int months : new int[] {0, 11, 12, 13, -1, -12, MOST, LEAST}) {
                for (int year : new int[] {-LAST, 0, LAST}) {
                    x.leafRound(0, year, months);
                    due(year, x.ofLeaf(0, 0));
                }
            }
        });
        sentence(3, "`year`: the number of its YEAR", x -> {
            x.leafRound(0, -LAST, -1);
            leafIs(x, 0, -LAST, 12);
            x.leafRound(0, LAST, 12);
            leafIs(x, 0, LAST, 1);
        });
        sentence(3, "`months`: how many months, any number", x -> {
            due("8 7", told(x.leafRound(0, 5, MOST), x.leafRound(0, 5, MOST - 1)));
            due("5 6", told(x.leafRound(0, 5, LEAST), x.leafRound(0, 5, LEAST + 1)));
            leafIs(x, 0, 5, 6);
        });
        sentence(3, "Returns its MONTH.", x ->
            due("2 2 12", told(x.leafRound(0, 2024, 1), x.leafRound(0, 2023, 1), x.leafRound(0, 2023, -1))));
        places(3, "if there is no such LEAF", (x, place) -> x.leafRound(place, 2023, 5));
        bounds(3, "if year is not -999999999 to 999999999", -LAST, LAST, (x, year) -> x.leafRound(0, year, 5));
        placeFirst(3, x -> x.leafRound(4, LAST + 1, 5), x -> x.leafRound(LEAST, -LAST - 1, LEAST));
    }

    private static void promise4() {
        onlyThere(4, "The LEAF so many months on from it lies there.", LEAF,
            (x, place) -> x.months(place, 1, place == 2));
        sentence(4, "so many months on from it", x -> {
            x.leaf(0, 2023, 12);
            x.months(0, 1, false);
            leafIs(x, 0, 2024, 1);
            x.months(0, 1, true);
            leafIs(x, 0, 2023, 12);
            x.months(0, 12, true);
            leafIs(x, 0, 2022, 12);
            x.leaf(0, 1, 1);
            x.months(0, 1, true);
            leafIs(x, 0, 0, 12);
            x.months(0, 12, true);
            leafIs(x, 0, -1, 12);
            x.months(0, 13, false);
            leafIs(x, 0, 1, 1);
            x.months(0, 0, false);
            x.months(0, 0, true);
            leafIs(x, 0, 1, 1);
        });
        sentence(4, "`months`: how many, any number", x -> {
            x.months(0, MOST, false);
            countIs(x, 0, "2147483647");
            x.months(0, LEAST, false);
            countIs(x, 0, "-1");
            x.months(1, LEAST, false);
            countIs(x, 1, "-2147483648");
            x.leaf(2, LAST, 12);
            x.months(2, LEAST, false);
            countIs(x, 2, "9852516351");
            x.leaf(3, -LAST, 1);
            x.months(3, MOST, false);
            countIs(x, 3, "-9852516341");
        });
        sentence(4, "(so many on is as many back of the other sign)", x -> {
            x.months(0, -3, true);
            countIs(x, 0, "3");
            x.months(0, -4, false);
            countIs(x, 0, "-1");
            x.months(1, LEAST, true);
            countIs(x, 1, "2147483648");
            x.months(1, MOST, true);
            countIs(x, 1, "1");
        });
        sentence(4, "Returns its LENGTH then", x -> {
            x.leaf(0, 2024, 1);
            due("29 31 29", told(x.months(0, 1, false), x.months(0, 1, false), x.months(0, 1, true)));
            due("28 28 30", told(x.months(0, 12, false), x.months(0, 0, true), x.months(0, 2, false)));
        });
        sentence(4, "-9 if there is none, beyond the first", x -> {
            x.leaf(0, -LAST, 2);
            due(31, x.months(0, 1, true));
            countIs(x, 0, "-11999999988");
            refused(x, y -> y.months(0, 1, true));
            refused(x, y -> y.months(0, -1, false));
            refused(x, y -> y.months(0, MOST, true));
            refused(x, y -> y.months(0, LEAST, false));
            due(31, x.months(0, 0, true));
            due(28, x.months(0, 1, false));
        });
        sentence(4, "or the last LEAF", x -> {
            x.leaf(0, LAST, 11);
            due(31, x.months(0, 1, false));
            countIs(x, 0, "11999999999");
            refused(x, y -> y.months(0, 1, false));
            refused(x, y -> y.months(0, -1, true));
            refused(x, y -> y.months(0, MOST, false));
            refused(x, y -> y.months(0, LEAST, true));
            due(31, x.months(0, 0, false));
            due(30, x.months(0, 1, true));
        });
        places(4, "if there is no such LEAF", (x, place) -> x.months(place, 0, false));
        placeFirst(4, x -> x.months(4, MOST, false), x -> x.months(-1, LEAST, true));
    }

    private static void promise5() {
        onlyThere(5, "The LEAF of the same MONTH so many YEARS on", LEAF, (x, place) -> x.years(place, 1, place == 2));
        sentence(5, "of the same MONTH so many YEARS on from it", x -> {
            x.leaf(0, 1, 12);
            x.years(0, 1, true);
            leafIs(x, 0, 0, 12);
            x.years(0, 1, true);
            leafIs(x, 0, -1, 12);
            x.years(0, 3, false);
            leafIs(x, 0, 2, 12);
            x.leaf(0, 0, 1);
            x.years(0, 1, true);
            leafIs(x, 0, -1, 1);
            x.years(0, 0, false);
            leafIs(x, 0, -1, 1);
        });
        sentence(5, "`years`: how many, any number", x -> {
            x.leaf(0, -LAST, 7);
            due(31, x.years(0, 1999999998, false));
            leafIs(x, 0, LAST, 7);
            due(31, x.years(0, -1999999998, false));
            leafIs(x, 0, -LAST, 7);
            refused(x, y -> y.years(0, 1999999999, false));
            refused(x, y -> y.years(0, MOST, false));
            refused(x, y -> y.years(0, LEAST, false));
            x.leaf(1, LAST, 7);
            refused(x, y -> y.years(1, MOST, false));
            refused(x, y -> y.years(1, LEAST, false));
            refused(x, y -> y.years(1, -1999999999, false));
        });
        sentence(5, "(so many on is as many back of the other sign)", x -> {
            x.years(0, -3, true);
            leafIs(x, 0, 3, 1);
            x.years(0, -4, false);
            leafIs(x, 0, -1, 1);
            x.leaf(0, -LAST, 1);
            refused(x, y -> y.years(0, LEAST, true));
            x.leaf(0, LAST, 1);
            refused(x, y -> y.years(0, MOST, true));
            due(31, x.years(0, 1999999998, true));
            leafIs(x, 0, -LAST, 1);
        });
        sentence(5, "Returns its LENGTH then", x -> {
            x.leaf(0, 2024, 2);
            due("28 29 29", told(x.years(0, 1, false), x.years(0, 1, true), x.years(0, 0, false)));
            due("28 28 29", told(x.years(0, 76, false), x.years(0, 200, true), x.years(0, -100, true)));
        });
        sentence(5, "-9 if there is no such YEAR", x -> {
            x.leaf(0, LAST, 1);
            refused(x, y -> y.years(0, 1, false));
            refused(x, y -> y.years(0, -1, true));
            x.leaf(0, LAST - 1, 12);
            due(31, x.years(0, 1, false));
            x.leaf(1, -LAST, 12);
            refused(x, y -> y.years(1, 1, true));
            refused(x, y -> y.years(1, -1, false));
            x.leaf(1, -LAST + 1, 1);
            due(31, x.years(1, 1, true));
        });
        places(5, "if there is no such LEAF", (x, place) -> x.years(place, 0, false));
        placeFirst(5, x -> x.years(4, MOST, false), x -> x.years(-1, LEAST, true));
    }

    private static void promise6() {
        int[] yearsOf = {0, 1, 10, 100, 1000};
        onlyThere(6, "The LEAF so many UNITS on from it lies there.", LEAF,
            (x, place) -> x.units(place, 2, 1, place == 2));
        sentence(6, "so many UNITS on from it", x -> {
            for (int unit = 1; unit <= 4; unit++) {
                x.leaf(0, 0, 12);
                x.units(0, unit, 3, true);
                leafIs(x, 0, -3 * yearsOf[unit], 12);
                x.units(0, unit, 4, false);
                leafIs(x, 0, yearsOf[unit], 12);
                x.units(0, unit, 0, false);
                leafIs(x, 0, yearsOf[unit], 12);
            }
            x.leaf(0, 0, 12);
            x.units(0, 0, 3, true);
            leafIs(x, 0, 0, 9);
            x.units(0, 0, 4, false);
            leafIs(x, 0, 1, 1);
        });
        sentence(6, "`many`: how many, any number", x -> {
            x.units(0, 0, MOST, false);
            countIs(x, 0, "2147483647");
            x.units(1, 0, LEAST, false);
            countIs(x, 1, "-2147483648");
            for (int unit = 1; unit <= 4; unit++) {
                int of = unit;
                Monthyears y = mixed();
                refused(y, z -> z.units(0, of, MOST, false));
                refused(y, z -> z.units(0, of, LEAST, false));
                refused(y, z -> z.units(2, of, LEAST, false));
                refused(y, z -> z.units(3, of, MOST, false));
            }
        });
        sentence(6, "(so many on is as many back of the other sign)", x -> {
            x.units(0, 2, -3, true);
            leafIs(x, 0, 30, 1);
            x.units(0, 0, LEAST, true);
            countIs(x, 0, "2147484008");
            for (int unit = 1; unit <= 4; unit++) {
                int of = unit;
                Monthyears y = mixed();
                refused(y, z -> z.units(0, of, MOST, true));
                refused(y, z -> z.units(0, of, LEAST, true));
                refused(y, z -> z.units(2, of, MOST, true));
                refused(y, z -> z.units(3, of, LEAST, true));
            }
        });
        sentence(6, "Returns its LENGTH then", x -> {
            x.leaf(0, 2000, 2);
            due("28 28 28", told(x.units(0, 1, 1, false), x.units(0, 2, 1, false), x.units(0, 3, 1, true)));
            x.leaf(0, 2000, 2);
            due("29 31 29", told(x.units(0, 4, 2, true), x.units(0, 0, 1, true), x.units(0, 0, 1, false)));
        });
        sentence(6, "`unit`: the UNIT", x -> {
            String[] counts = {"-1", "-12", "-120", "-1200", "-12000"};
            for (int unit = 0; unit <= 4; unit++) {
                x.leaf(0, 0, 1);
                x.units(0, unit, 1, true);
                countIs(x, 0, counts[unit]);
            }
        });
        int[] mostFromFirst = {0, 1999999998, 199999999, 19999999, 1999999};
        sentence(6, "-9 if there is none, beyond the first", none -> {
            for (int unit = 1; unit <= 4; unit++) {
                int of = unit;
                int most = mostFromFirst[unit];
                Monthyears x = new Monthyears();
                x.leaf(0, LAST, 1);
                refused(x, y -> y.units(0, of, most + 1, true));
                refused(x, y -> y.units(0, of, -most - 1, false));
                due(31, x.units(0, of, most, true));
                due(1, x.ofLeaf(0, 1));
                x.leaf(1, -LAST + yearsOf[unit], 1);
                due(31, x.units(1, of, 1, true));
                leafIs(x, 1, -LAST, 1);
                refused(x, y -> y.units(1, of, 1, true));
            }
            Monthyears x = new Monthyears();
            x.leaf(0, -LAST, 2);
            due(31, x.units(0, 0, 1, true));
            refused(x, y -> y.units(0, 0, 1, true));
            refused(x, y -> y.units(0, 0, LEAST, false));
        });
        sentence(6, "or the last LEAF", none -> {
            for (int unit = 1; unit <= 4; unit++) {
                int of = unit;
                int most = mostFromFirst[unit];
                Monthyears x = new Monthyears();
                x.leaf(0, -LAST, 12);
                refused(x, y -> y.units(0, of, most + 1, false));
                refused(x, y -> y.units(0, of, -most - 1, true));
                due(31, x.units(0, of, most, false));
                due(12, x.ofLeaf(0, 1));
                x.leaf(1, LAST - yearsOf[unit], 12);
                due(31, x.units(1, of, 1, false));
                leafIs(x, 1, LAST, 12);
                refused(x, y -> y.units(1, of, 1, false));
            }
            Monthyears x = new Monthyears();
            x.leaf(0, LAST, 11);
            due(31, x.units(0, 0, 1, false));
            refused(x, y -> y.units(0, 0, 1, false));
            refused(x, y -> y.units(0, 0, MOST, false));
        });
        places(6, "if there is no such LEAF", (x, place) -> x.units(place, 1, 0, false));
        bounds(6, "if unit is not 0 to 4", 0, 4, (x, unit) -> x.units(0, unit, 1, false));
        placeFirst(6, x -> x.units(4, 5, 1, false), x -> x.units(-1, -1, MOST, true));
        sentence(6, "Throws `IllegalArgumentException`", none -> {
            noArgument(x -> x.units(2, 5, 1, false));
            noArgument(x -> x.units(3, -1, 1, true));
            noArgument(x -> x.units(0, 5, 0, false));
        });
    }

    private static void promise7() {
        onlyThere(7, "so many YEARS and so many months together on from it lies there", LEAF,
            (x, place) -> x.both(place, 1, 1, place == 2));
        sentence(7, "the one may be below 0 and the other one above", x -> {
            x.both(0, 2, -1, false);
            leafIs(x, 0, 1, 12);
            x.both(0, -2, 1, false);
            leafIs(x, 0, 0, 1);
            x.both(0, 1, -1, true);
            leafIs(x, 0, -1, 2);
            x.both(0, -1, 12, false);
            leafIs(x, 0, -1, 2);
            x.both(0, 0, 0, false);
            leafIs(x, 0, -1, 2);
        });
        sentence(7, "their sum alone counts, not what lies on the way", x -> {
            x.leaf(0, LAST, 12);
            due(31, x.both(0, 1, -12, false));
            due(31, x.both(0, -1, 12, true));
            due(31, x.both(0, -1, 12, false));
            due(31, x.both(0, 1, -12, true));
            countIs(x, 0, "11999999999");
            x.leaf(1, -LAST, 1);
            due(31, x.both(1, -1, 12, false));
            due(31, x.both(1, 1, -12, true));
            due(31, x.both(1, 1, -12, false));
            due(31, x.both(1, -1, 12, true));
            countIs(x, 1, "-11999999988");
            due(31, x.both(0, 8333333, -99999996, false));
            countIs(x, 0, "11999999999");
        });
        sentence(7, "`years`: how many YEARS, any number", x -> {
            x.both(0, BOTH_MOST, 0, false);
            leafIs(x, 0, BOTH_MOST, 1);
            x.both(1, -BOTH_MOST, 0, false);
            leafIs(x, 1, -BOTH_MOST, 1);
        });
        sentence(7, "`months`: how many months, any number", x -> {
            x.both(0, 0, BOTH_MOST, false);
            countIs(x, 0, "99999999");
            x.both(1, 0, -BOTH_MOST, false);
            countIs(x, 1, "-99999999");
        });
        sentence(7, "(so many on is as many back of the other sign)", x -> {
            x.both(0, BOTH_MOST, BOTH_MOST, true);
            countIs(x, 0, "-1299999987");
            x.both(0, -BOTH_MOST, -BOTH_MOST, true);
            countIs(x, 0, "0");
            x.both(1, 1, -2, true);
            countIs(x, 1, "-10");
        });
        sentence(7, "Returns its LENGTH then", x -> {
            x.leaf(0, 2024, 1);
            due("28 29 30", told(x.both(0, 1, 1, false), x.both(0, 1, 0, true), x.both(0, -1, -3, false)));
        });
        sentence(7, "-9 if there is none, beyond the first", x -> {
            x.leaf(0, -LAST, 1);
            refused(x, y -> y.both(0, 0, 1, true));
            refused(x, y -> y.both(0, -1, 11, false));
            refused(x, y -> y.both(0, 1, -11, true));
            refused(x, y -> y.both(0, -1, 0, false));
            refused(x, y -> y.both(0, BOTH_MOST, BOTH_MOST, true));
            x.leaf(0, -LAST + 1, 2);
            due(31, x.both(0, 1, 1, true));
            countIs(x, 0, "-11999999988");
        });
        sentence(7, "or the last LEAF", x -> {
            x.leaf(0, LAST, 12);
            refused(x, y -> y.both(0, 0, 1, false));
            refused(x, y -> y.both(0, 1, -11, false));
            refused(x, y -> y.both(0, -1, 11, true));
            refused(x, y -> y.both(0, 1, 0, false));
            refused(x, y -> y.both(0, -BOTH_MOST, -BOTH_MOST, true));
            x.leaf(0, LAST - 1, 11);
            due(31, x.both(0, 1, 1, false));
            countIs(x, 0, "11999999999");
        });
        places(7, "if there is no such LEAF", (x, place) -> x.both(place, 0, 0, false));
        for (boolean isBack : BOTH) {
            bounds(7, "if years", -BOTH_MOST, BOTH_MOST, (x, years) -> x.both(0, years, 0, isBack));
            bounds(7, "or months is not -99999999 to 99999999", -BOTH_MOST, BOTH_MOST,
                (x, months) -> x.both(0, 0, months, isBack));
        }
        placeFirst(7, x -> x.both(4, BOTH_MOST + 1, LEAST, false), x -> x.both(-1, 0, BOTH_MOST + 1, true));
        sentence(7, "Throws `IllegalArgumentException`", none -> {
            noArgument(x -> x.both(2, BOTH_MOST + 1, 0, false));
            noArgument(x -> x.both(3, 0, BOTH_MOST + 1, true));
        });
    }

    private static void promise8() {
        onlyThere(8, "The LEAF of the same MONTH of that YEAR lies there.", LEAF, (x, place) -> x.leafYear(place, 5));
        sentence(8, "of the same MONTH", x -> {
            for (int month = 1; month <= 12; month++) {
                x.leaf(0, 2024, month);
                x.leafYear(0, -1);
                leafIs(x, 0, -1, month);
            }
        });
        sentence(8, "`year`: the number of the YEAR", x -> {
            x.leaf(0, 2024, 2);
            for (int year : new int[] {-LAST, LAST, -1, 0, 1, 2023}) {
                x.leafYear(0, year);
                leafIs(x, 0, year, 2);
            }
            due(28, x.ofLeaf(0, 2));
        });
        sentence(8, "Returns the number of its YEAR before.", x -> {
            due("0 5 5", told(x.leafYear(0, 5), x.leafYear(0, 5), x.leafYear(0, -LAST)));
            due(-LAST, x.leafYear(0, LAST));
            due(LAST, x.leafYear(0, -1));
            due(-1, x.leafYear(0, 0));
        });
        places(8, "if there is no such LEAF", (x, place) -> x.leafYear(place, 5));
        bounds(8, "if year is not -999999999 to 999999999", -LAST, LAST, (x, year) -> x.leafYear(0, year));
        placeFirst(8, x -> x.leafYear(4, LAST + 1), x -> x.leafYear(-1, LEAST));
    }

    private static void promise9() {
        onlyThere(9, "The LEAF of that MONTH of the same YEAR lies there.", LEAF, (x, place) -> x.leafMonth(place, 5));
        sentence(9, "of the same YEAR", x -> {
            for (int year : new int[] {-LAST, -1, 0, 1, LAST}) {
                x.leaf(0, year, 6);
                x.leafMonth(0, 1);
                leafIs(x, 0, year, 1);
                x.leafMonth(0, 12);
                leafIs(x, 0, year, 12);
            }
        });
        sentence(9, "`month`: the MONTH", x -> {
            for (int month = 1; month <= 12; month++) {
                x.leafMonth(0, month);
                due(month, x.ofLeaf(0, 1));
            }
        });
        sentence(9, "Returns its MONTH before.", x -> {
            due("1 12 12 2", told(x.leafMonth(0, 12), x.leafMonth(0, 12), x.leafMonth(0, 2), x.leafMonth(0, 1)));
            x.leaf(0, -LAST, 11);
            due(11, x.leafMonth(0, 1));
        });
        places(9, "if there is no such LEAF", (x, place) -> x.leafMonth(place, 5));
        bounds(9, "if month is not 1 to 12", 1, 12, (x, month) -> x.leafMonth(0, month));
        placeFirst(9, x -> x.leafMonth(4, 13), x -> x.leafMonth(-1, 0));
    }

    private static void promise10() {
        onlyThere(10, "One thing of a LEAF becomes another one", LEAF, (x, place) -> x.leafWith(place, 4, 77));
        sentence(10, "the other things stay", x -> {
            x.leaf(0, 2024, 2);
            x.leafWith(0, 0, 12);
            leafIs(x, 0, 2024, 12);
            x.leafWith(0, 1, -1);
            leafIs(x, 0, -1, 12);
            x.leafWith(0, 2, 1);
            leafIs(x, 0, 0, 12);
            x.leafWith(0, 3, 1);
            leafIs(x, 0, 1, 12);
        });
        sentence(10, "0 its MONTH (1 to 12)", x -> {
            for (int month = 1; month <= 12; month++) {
                x.leafWith(0, 0, month);
                leafIs(x, 0, 0, month);
            }
            x.leaf(0, LAST, 1);
            due(31, x.leafWith(0, 0, 12));
            x.leaf(0, -LAST, 12);
            due(31, x.leafWith(0, 0, 1));
        });
        sentence(10, "1 the number of its YEAR (-999999999 to 999999999)", x -> {
            for (int year : new int[] {-LAST, -1, 0, 1, LAST}) {
                x.leafWith(0, 1, year);
                leafIs(x, 0, year, 1);
            }
        });
        sentence(10, "`what`: which one", x -> {
            int[][] leaves = {{-5, 1}, {1, 7}, {0, 7}, {6, 7}, {0, 2}};
            for (int what = 0; what <= 4; what++) {
                x.leaf(0, -5, 7);
                x.leafWith(0, what, 1);
                leafIs(x, 0, leaves[what][0], leaves[what][1]);
            }
        });
        sentence(10, "`value`: what it is then", x -> {
            int[] asked = {1, 0, 6, 7};
            for (int what = 0; what <= 3; what++) {
                x.leafWith(0, what, 1);
                due(1, x.ofLeaf(0, asked[what]));
            }
            x.leafWith(0, 4, 1);
            countIs(x, 0, "1");
        });
        sentence(10, "4 its COUNT (any number; nothing else stays)", x -> {
            x.leaf(0, LAST, 12);
            for (int count : new int[] {MOST, LEAST, 0, 1, -1, 11, 12, -12, -13}) {
                due(false, x.leafWith(0, 4, count) == -9);
                countIs(x, 0, Integer.toString(count));
            }
            leafIs(x, 0, -2, 12);
        });
        places(10, "if there is no such LEAF", (x, place) -> x.leafWith(place, 0, 5));
        bounds(10, "if what is not 0 to 4", 0, 4, (x, what) -> x.leafWith(0, what, 1));
        bounds(10, "or value is not as it is told for it", 1, 12, (x, value) -> x.leafWith(0, 0, value));
        bounds(10, "or value is not as it is told for it", -LAST, LAST, (x, value) -> x.leafWith(0, 1, value));
        bounds(10, "or value is not as it is told for it", 1, LAST, (x, value) -> x.leafWith(0, 2, value));
        bounds(10, "or value is not as it is told for it", 1, LAST, (x, value) -> x.leafWith(1, 2, value));
        bounds(10, "or value is not as it is told for it", 0, 1, (x, value) -> x.leafWith(0, 3, value));
        placeFirst(10, x -> x.leafWith(4, 5, 1), x -> x.leafWith(-1, 0, 13), x -> x.leafWith(4, 3, 2));
        sentence(10, "Throws `IllegalArgumentException`", none -> {
            noArgument(x -> x.leafWith(3, 3, 2));
            noArgument(x -> x.leafWith(3, 3, -1));
            noArgument(x -> x.leafWith(3, 2, LAST + 1));
            noArgument(x -> x.leafWith(0, -1, LEAST));
            noArgument(x -> x.leafWith(0, 5, MOST));
        });
    }

    private static void promise10Sides() {
        sentence(10, "2 the RANK of its YEAR (1 to 999999999; the SIDE stays)", x -> {
            int[][] ranks = {{1, 1, 1}, {1, 2, 2}, {1, LAST, LAST}, {0, 1, 0}, {0, 2, -1}, {0, LAST, 1 - LAST},
                {-LAST, 1, 0}, {-LAST, LAST, 1 - LAST}, {LAST, 1, 1}};
            for (int[] told : ranks) {
                x.leaf(0, told[0], 7);
                due(31, x.leafWith(0, 2, told[1]));
                leafIs(x, 0, told[2], 7);
            }
        });
        sentence(10, "3 the SIDE of its YEAR (0 or 1; the RANK stays)", x -> {
            int[][] sides = {{1, 0, 0}, {0, 1, 1}, {2, 0, -1}, {-1, 1, 2}, {5, 1, 5}, {-5, 0, -5}, {0, 0, 0}, {1, 1, 1},
                {LAST, 0, 1 - LAST}, {LAST, 1, LAST}, {-LAST, 0, -LAST}};
            for (int[] told : sides) {
                x.leaf(0, told[0], 7);
                due(31, x.leafWith(0, 3, told[1]));
                leafIs(x, 0, told[2], 7);
            }
        });
        sentence(10, "Returns its LENGTH then", x -> {
            x.leaf(0, 2023, 1);
            due("28 29 28 29",
                told(x.leafWith(0, 0, 2), x.leafWith(0, 1, 2024), x.leafWith(0, 3, 0), x.leafWith(0, 2, 1)));
            due("28 29 31 30",
                told(x.leafWith(0, 2, 2), x.leafWith(0, 4, 1), x.leafWith(0, 4, 0), x.leafWith(0, 4, -2)));
        });
        sentence(10, "-9 if there is no YEAR with that RANK on that SIDE", x -> {
            x.leaf(0, -LAST, 1);
            x.leaf(1, -LAST, 12);
            refused(x, y -> y.leafWith(0, 3, 1));
            refused(x, y -> y.leafWith(1, 3, 1));
        });
        sentence(10, "just the YEAR -999999999 has none on the SIDE 1; of the others -9 is never told", x -> {
            x.leaf(0, 1 - LAST, 1);
            due(31, x.leafWith(0, 3, 1));
            leafIs(x, 0, LAST, 1);
            x.leaf(0, 1 - LAST, 12);
            due(31, x.leafWith(0, 3, 1));
            leafIs(x, 0, LAST, 12);
            due(31, x.leafWith(0, 3, 0));
            leafIs(x, 0, 1 - LAST, 12);
            x.leaf(0, -LAST, 12);
            due(31, x.leafWith(0, 3, 0));
            leafIs(x, 0, -LAST, 12);
        });
    }

    private static void promise11() {
        onlyThere(11, "The LEAF of that MONTH of a YEAR of the shelf lies there.", LEAF,
            (x, place) -> x.leafOf(place, 1, 5));
        sentence(11, "of a YEAR of the shelf", none -> {
            int[] years = {1900, 2000, -LAST, LAST};
            for (int place = 0; place < 4; place++) {
                Monthyears x = mixed();
                x.leafOf(0, place, 1);
                leafIs(x, 0, years[place], 1);
                x.leafOf(0, place, 12);
                leafIs(x, 0, years[place], 12);
                due(years[place], x.ofYear(place, 0));
            }
        });
        sentence(11, "`month`: the MONTH", x -> {
            for (int month = 1; month <= 12; month++) {
                x.leafOf(0, 0, month);
                due(month, x.ofLeaf(0, 1));
            }
        });
        sentence(11, "Returns its LENGTH.", none -> {
            Monthyears x = mixed();
            due("28 29 28 31", told(x.leafOf(0, 0, 2), x.leafOf(0, 1, 2), x.leafOf(0, 3, 2), x.leafOf(0, 3, 12)));
        });
        places(11, "if there is no such LEAF", (x, place) -> x.leafOf(place, 0, 5));
        places(11, "or YEAR", (x, place) -> x.leafOf(0, place, 5));
        bounds(11, "if month is not 1 to 12", 1, 12, (x, month) -> x.leafOf(0, 0, month));
        placeFirst(11, x -> x.leafOf(4, 0, 13), x -> x.leafOf(0, 4, 0), x -> x.leafOf(-1, -1, LEAST));
    }

    private static void promise12() {
        onlyThere(12, "The LEAF of a YEAR of the shelf lies there", LEAF, (x, place) -> x.leafOfRound(place, 1, 5));
        sentence(12, "of a YEAR of the shelf", none -> {
            int[] years = {1900, 2000, -LAST, LAST};
            for (int place = 0; place < 4; place++) {
                Monthyears x = mixed();
                x.leafOfRound(0, place, -1);
                leafIs(x, 0, years[place], 12);
                x.leafOfRound(0, place, 12);
                leafIs(x, 0, years[place], 1);
            }
        });
        sentence(12, "whose MONTH stands so many months behind the MONTH 1, round and round", x -> {
            int[][] behind = {{0, 1}, {11, 12}, {12, 1}, {13, 2}, {-1, 12}, {-11, 2}, {-12, 1}, {-13, 12}};
            for (int[] told : behind) {
                x.leafOfRound(0, 0, told[0]);
                leafIs(x, 0, 0, told[1]);
            }
        });
        sentence(12, "`months`: how many months, any number", x -> {
            due("8 7", told(x.leafOfRound(0, 0, MOST), x.leafOfRound(0, 0, MOST - 1)));
            due("5 6", told(x.leafOfRound(0, 0, LEAST), x.leafOfRound(0, 0, LEAST + 1)));
            leafIs(x, 0, 0, 6);
        });
        sentence(12, "Returns its MONTH.", x -> due("2 12", told(x.leafOfRound(0, 0, 1), x.leafOfRound(0, 0, -1))));
        places(12, "if there is no such LEAF", (x, place) -> x.leafOfRound(place, 0, 5));
        places(12, "or YEAR", (x, place) -> x.leafOfRound(0, place, 5));
    }

    private static void promise13() {
        onlyThere(13, "The LEAF in which a DAY of the shelf stands lies there.", LEAF,
            (x, place) -> x.leafOfDay(place, place == 0 ? 1 : 0));
        sentence(13, "in which a DAY of the shelf stands", none -> {
            int[][] leaves = {{2024, 2}, {-1, 11}, {LAST, 12}, {-LAST, 1}};
            for (int place = 0; place < 4; place++) {
                Monthyears x = mixed();
                x.leaf(place, 5, 5);
                x.leafOfDay(2 - place / 2, place);
                leafIs(x, 2 - place / 2, leaves[place][0], leaves[place][1]);
                leafIs(x, place, 5, 5);
            }
        });
        sentence(13, "Returns its LENGTH.", none -> {
            Monthyears x = mixed();
            due("29 30 31 31", told(x.leafOfDay(0, 0), x.leafOfDay(0, 1), x.leafOfDay(0, 2), x.leafOfDay(0, 3)));
            x.leaf(0, 2023, 2);
            x.dayAt(0, 0, 1);
            due(28, x.leafOfDay(1, 0));
            x.dayEnd(0, 0);
            due(28, x.leafOfDay(1, 0));
        });
        places(13, "if there is no such LEAF", (x, place) -> x.leafOfDay(place, 0));
        places(13, "or DAY", (x, place) -> x.leafOfDay(0, place));
    }

    private static void promise14() {
        onlyThere(14, "The same LEAF lies there as on another place.", LEAF,
            (x, place) -> x.leafLike(place, place == 0 ? 1 : 0));
        sentence(14, "The same LEAF", none -> {
            for (int other = 0; other < 4; other++) {
                Monthyears x = mixed();
                String count = x.count(other);
                x.leafLike(3 - other, other);
                countIs(x, 3 - other, count);
                countIs(x, other, count);
            }
        });
        sentence(14, "`other`: another one (or the same)", none -> {
            for (int place = 0; place < 4; place++) {
                int at = place;
                still(mixed(), 1, x -> x.leafLike(at, at));
            }
        });
        sentence(14, "Returns 1 if they were the same already, otherwise 0.", x -> {
            due(1, x.leafLike(0, 3));
            x.leaf(0, LAST, 12);
            x.leaf(3, LAST, 11);
            due("0 1 1", told(x.leafLike(0, 3), x.leafLike(0, 3), x.leafLike(3, 0)));
            x.leaf(0, -LAST, 1);
            x.leaf(3, LAST, 1);
            due(0, x.leafLike(3, 0));
            x.leaf(0, 1, 1);
            x.leaf(3, 2, 1);
            due(0, x.leafLike(3, 0));
        });
        places(14, "if there is no such LEAF (both)", (x, place) -> x.leafLike(place, 0));
        places(14, "if there is no such LEAF (both)", (x, place) -> x.leafLike(0, place));
    }
}
