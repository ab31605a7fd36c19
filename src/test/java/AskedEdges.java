/** The sentences of the promises 32 to 50: what is asked of leaves, years, feasts and days. */
final class AskedEdges extends Edges {
    private interface OfThree {
        Object on(Monthyears x, int one, int two, int three);
    }

    private AskedEdges() {
    }

    static void all() {
        promise32();
        promises33And34();
        promises35And36();
        promise37();
        promise38();
        promise39();
        promise40();
        promises41And42();
        promise43();
        promise44();
        promise45();
        promises46And47();
        promise48();
        promises49And50();
    }

    private interface Thing {
        int of(Monthyears x, int place, int what);
    }

    /** Of the mixed shelf one thing is told as here, from the place 0 to the place 3. */
    private static void thing(int promise, String words, int what, Thing thing, int... told) {
        sentence(promise, words, none -> {
            for (int place = 0; place < 4; place++) {
                due(told[place], thing.of(mixed(), place, what));
            }
        });
    }

    private static void promise32() {
        thing(32, "0 the number of its YEAR", 0, Monthyears::ofLeaf, 2024, -1, LAST, -LAST);
        thing(32, "1 its MONTH", 1, Monthyears::ofLeaf, 2, 11, 12, 1);
        thing(32, "2 its LENGTH", 2, Monthyears::ofLeaf, 29, 30, 31, 31);
        thing(32, "3 how many DAYS its YEAR has", 3, Monthyears::ofLeaf, 366, 365, 365, 365);
        thing(32, "4 1 if that is LEAP, otherwise 0", 4, Monthyears::ofLeaf, 1, 0, 0, 0);
        thing(32, "5 its MONTH by its name, as a number", 5, Monthyears::ofLeaf, 2, 11, 12, 1);
        thing(32, "6 the RANK of its YEAR", 6, Monthyears::ofLeaf, 2024, 2, LAST, LAST + 1);
        thing(32, "7 the SIDE of its YEAR", 7, Monthyears::ofLeaf, 1, 0, 1, 0);
        sentence(32, "Returns that.", y -> {
            int[][] leaves = {{0, 1, 31, 366, 1, 1, 1, 0}, {0, 12, 31, 366, 1, 12, 1, 0}, {1, 1, 31, 365, 0, 1, 1, 1},
                {-1, 12, 31, 365, 0, 12, 2, 0}, {1900, 2, 28, 365, 0, 2, 1900, 1}, {2000, 2, 29, 366, 1, 2, 2000, 1},
                {LAST, 1, 31, 365, 0, 1, LAST, 1}, {-LAST, 12, 31, 365, 0, 12, LAST + 1, 0},
                {-4, 2, 29, 366, 1, 2, 5, 0}};
            for (int[] leaf : leaves) {
                y.leaf(0, leaf[0], leaf[1]);
                for (int what = 0; what <= 7; what++) {
                    due(leaf[what], y.ofLeaf(0, what));
                }
            }
        });
        for (int what = 0; what <= 7; what++) {
            int asked = what;
            asksAlone(32, "Tells something of a LEAF.", (y, place) -> y.ofLeaf(place, asked));
        }
        places(32, "if there is no such LEAF", (y, place) -> y.ofLeaf(place, 0));
        bounds(32, "if what is not 0 to 7", 0, 7, (y, what) -> y.ofLeaf(0, what));
        placeFirst(32, y -> y.ofLeaf(4, 8), y -> y.ofLeaf(-1, -1));
    }

    private static void promises33And34() {
        asksAlone(33, "Tells the COUNT.", (x, place) -> x.count(place));
        sentence(33, "Returns its COUNT, as a text.", x -> {
            int[][] leaves = {{0, 1}, {0, 2}, {-1, 12}, {-1, 1}, {0, 11}, {-LAST, 1}, {LAST, 12}, {178956970, 8},
                {178956970, 9}, {-178956971, 5}, {-178956971, 4}};
            String[] counts = {"0", "1", "-1", "-12", "10", "-11999999988", "11999999999", "2147483647", "2147483648",
                "-2147483648", "-2147483649"};
            for (int leaf = 0; leaf < leaves.length; leaf++) {
                x.leaf(0, leaves[leaf][0], leaves[leaf][1]);
                due(counts[leaf], x.count(0));
            }
        });
        places(33, "if there is no such LEAF", (x, place) -> x.count(place));

        asksAlone(34, "Tells whether a LEAF has such a day.", (x, place) -> x.hasDay(place, 29));
        sentence(34, "Returns whether it is 1 to the LENGTH of the LEAF.", x -> {
            int[][] leaves = {{2023, 2, 28}, {2024, 2, 29}, {2023, 4, 30}, {2023, 12, 31}, {-LAST, 1, 31},
                {LAST, 12, 31}};
            for (int[] leaf : leaves) {
                x.leaf(0, leaf[0], leaf[1]);
                due("false true true", told(x.hasDay(0, 0), x.hasDay(0, 1), x.hasDay(0, 2)));
                due("true true false", told(x.hasDay(0, leaf[2] - 1), x.hasDay(0, leaf[2]), x.hasDay(0, leaf[2] + 1)));
            }
        });
        sentence(34, "`number`: any number", x -> {
            for (int number : new int[] {LEAST, LEAST + 1, -1, 0, 32, 257, 65537, MOST}) {
                due(false, x.hasDay(0, number));
            }
        });
        places(34, "if there is no such LEAF", (x, place) -> x.hasDay(place, 1));
        placeFirst(34, x -> x.hasDay(4, LEAST), x -> x.hasDay(-1, 0));
    }

    /** The places of {@code set} hold the things 0, 1 and 2 in their order, and the thing 1 twice. */
    private static void orders(int promise, String[] words, Test set, OfThree call) {
        int[] ranks = {1, 0, 2, 1};
        for (int what = 0; what <= 2; what++) {
            int asked = what;
            sentence(promise, words[what], x -> {
                set.on(x);
                for (int one = 0; one < 4; one++) {
                    for (int other = 0; other < 4; other++) {
                        int order = Integer.compare(ranks[one], ranks[other]);
                        int want = asked == 0 ? order : (asked == 1 ? order < 0 : order > 0) ? 1 : 0;
                        due(want, call.on(x, one, other, asked));
                    }
                }
            });
        }
        sentence(promise, "`other`: another one (or the same)", none -> {
            for (int place = 0; place < 4; place++) {
                Monthyears x = mixed();
                due("0 0 0",
                    told(call.on(x, place, place, 0), call.on(x, place, place, 1), call.on(x, place, place, 2)));
            }
        });
        for (int what = 0; what <= 2; what++) {
            int asked = what;
            asksAlone(promise, "Returns that.", (x, place) -> call.on(x, place, 1, asked));
        }
        places(promise, "(both)", (x, place) -> call.on(x, place, 0, 0));
        places(promise, "(both)", (x, place) -> call.on(x, 0, place, 0));
        bounds(promise, "if what is not 0 to 2", 0, 2, (x, what) -> call.on(x, 0, 1, what));
        placeFirst(promise, x -> call.on(x, 4, 0, 3), x -> call.on(x, 0, 4, -1), x -> call.on(x, -1, -1, LEAST));
    }

    /** The things of {@code set} are the same on the places 0 and 3, and differ by the least there is from 1 and 2. */
    private static void sameness(int promise, int kind, Test set, OfThree call) {
        boolean[][] same = {{true, false, false, true}, {false, true, false, false}, {false, false, true, false},
            {true, false, false, true}};
        String[] words = {"0 a LEAF", "1 a YEAR", "2 a FEAST", "3 a DAY", "4 nothing"};
        for (int what = 0; what <= 4; what++) {
            int asked = what;
            sentence(promise, words[what], x -> {
                set.on(x);
                for (int one = 0; one < 4; one++) {
                    for (int other = 0; other < 4; other++) {
                        due(asked == kind && same[one][other], call.on(x, one, asked, other));
                    }
                }
            });
            sentence(promise, words[what], x -> due(asked == kind, call.on(x, 2, asked, 2)));
            places(promise, "`other`: its place (of nothing any of 0 to 3)", (x, other) -> call.on(x, 0, asked, other));
            asksAlone(promise, "Returns whether they are the same.", (x, place) -> call.on(x, place, asked, 1));
            places(promise, "Throws `IndexOutOfBoundsException` if there is no such",
                (x, place) -> call.on(x, place, asked, 0));
        }
        places(promise, "or other is not 0 to 3", (x, other) -> call.on(x, 0, kind, other));
        bounds(promise, "if what is not 0 to 4", 0, 4, (x, what) -> call.on(x, 0, what, 0));
        placeFirst(promise, x -> call.on(x, 4, 5, 0), x -> call.on(x, 0, 5, 4), x -> call.on(x, -1, -1, -1));
    }

    private static final String[] ORDER_WORDS = {"0: -1 if the first one is ahead, 0 if they are the same, 1 otherwise",
        "1: 1 if it is ahead, otherwise 0", "2: 1 if it is behind, otherwise 0"};
    private static final String[] AS_LEAF_ORDER = {"as leafOrder() tells it", "as leafOrder() tells it",
        "as leafOrder() tells it"};

    private static void promises35And36() {
        orders(35, ORDER_WORDS, x -> {
            x.leaf(0, 0, 1);
            x.leaf(1, -1, 12);
            x.leaf(2, 0, 2);
            x.leaf(3, 0, 1);
        }, (x, one, other, what) -> x.leafOrder(one, other, what));
        sentence(35, "Holds two LEAVES beside each other.", x -> {
            x.leaf(0, -LAST, 1);
            x.leaf(1, LAST, 12);
            due("-1 1 0", told(x.leafOrder(0, 1, 0), x.leafOrder(0, 1, 1), x.leafOrder(0, 1, 2)));
            due("1 0 1", told(x.leafOrder(1, 0, 0), x.leafOrder(1, 0, 1), x.leafOrder(1, 0, 2)));
            x.leaf(0, 1, 12);
            x.leaf(1, 2, 1);
            due("-1 1", told(x.leafOrder(0, 1, 0), x.leafOrder(1, 0, 0)));
        });
        sameness(36, 0, x -> {
            x.leaf(0, 2024, 1);
            x.leaf(1, 2024, 2);
            x.leaf(2, 2023, 1);
            x.leaf(3, 2024, 1);
        }, (x, one, what, other) -> x.isLeaf(one, what, other));
        sentence(36, "Tells whether a LEAF is the same as something.", x -> {
            x.leaf(0, LAST, 12);
            x.leaf(1, LAST, 11);
            due("true false", told(x.isLeaf(0, 0, 0), x.isLeaf(0, 0, 1)));
            x.leaf(0, -LAST, 1);
            x.leaf(1, LAST, 1);
            due(false, x.isLeaf(0, 0, 1));
        });
    }

    private static void promise37() {
        int[] months = {1, 12, 120, 1200, 12000};
        for (boolean isOfUnit : BOTH) {
            sentence(37, "Returns that, as a text.", none -> {
                for (int unit = 0; unit <= 4; unit++) {
                    int size = months[unit];
                    Monthyears x = new Monthyears();
                    int[][] ways = {{size, 1}, {size + size - 1, 1}, {2 * size, 2}, {size - 1, 0}, {0, 0}};
                    for (int[] way : ways) {
                        x.leaf(0, 1, 6);
                        x.leaf(1, 1, 6);
                        x.months(1, way[0], false);
                        due(Integer.toString(way[1]), x.leafTo(0, 1, unit, isOfUnit));
                        due(Integer.toString(-way[1]), x.leafTo(1, 0, unit, isOfUnit));
                    }
                }
            });
            sentence(37, "Tells how many UNITS one goes from a LEAF to another one.", x -> {
                x.leaf(0, -LAST, 1);
                x.leaf(1, LAST, 12);
                String[] units = {"23999999987", "1999999998", "199999999", "19999999", "1999999"};
                for (int unit = 0; unit <= 4; unit++) {
                    due(units[unit], x.leafTo(0, 1, unit, isOfUnit));
                    due("-" + units[unit], x.leafTo(1, 0, unit, isOfUnit));
                }
            });
            sentence(37, "`unit`: the UNIT", x -> {
                x.leaf(1, 12345, 6);
                String[] units = {"148145", "12345", "1234", "123", "12"};
                for (int unit = 0; unit <= 4; unit++) {
                    due(units[unit], x.leafTo(0, 1, unit, isOfUnit));
                }
            });
            sentence(37, "`other`: to which one", none -> {
                for (int place = 0; place < 4; place++) {
                    due("0", mixed().leafTo(place, place, 0, isOfUnit));
                }
            });
            sentence(37, "`leaf`: from which LEAF", none -> {
                due("-24291", mixed().leafTo(0, 1, 0, isOfUnit));
                due("24291", mixed().leafTo(1, 0, 0, isOfUnit));
            });
            asksAlone(37, "Tells how many UNITS", (x, place) -> x.leafTo(place, 1, 1, isOfUnit));
            places(37, "(both)", (x, place) -> x.leafTo(place, 0, 0, isOfUnit));
            places(37, "(both)", (x, place) -> x.leafTo(0, place, 0, isOfUnit));
            bounds(37, "if unit is not 0 to 4", 0, 4, (x, unit) -> x.leafTo(0, 1, unit, isOfUnit));
            placeFirst(37, x -> x.leafTo(4, 0, 5, isOfUnit), x -> x.leafTo(0, 4, -1, isOfUnit));
        }
        sentence(37, "(the same comes of it)", x -> {
            x.leaf(1, -2, 3);
            for (int unit = 0; unit <= 4; unit++) {
                due(x.leafTo(0, 1, unit, false), x.leafTo(0, 1, unit, true));
            }
        });
    }

    private static void promise38() {
        thing(38, "0 its number", 0, Monthyears::ofYear, 1900, 2000, -LAST, LAST);
        thing(38, "1 1 if it is LEAP, otherwise 0", 1, Monthyears::ofYear, 0, 1, 0, 0);
        thing(38, "2 how many DAYS it has", 2, Monthyears::ofYear, 365, 366, 365, 365);
        thing(38, "3 its RANK", 3, Monthyears::ofYear, 1900, 2000, LAST + 1, LAST);
        thing(38, "4 its SIDE", 4, Monthyears::ofYear, 1, 1, 0, 1);
        sentence(38, "Returns that.", y -> {
            int[][] years = {{-LAST, 0, 365, LAST + 1, 0}, {1 - LAST, 0, 365, LAST, 0}, {-1, 0, 365, 2, 0},
                {1, 0, 365, 1, 1}, {-4, 1, 366, 5, 0}, {-100, 0, 365, 101, 0}, {-400, 1, 366, 401, 0}};
            for (int[] year : years) {
                y.year(0, year[0]);
                for (int what = 0; what <= 4; what++) {
                    due(year[what], y.ofYear(0, what));
                }
            }
        });
        for (int what = 0; what <= 4; what++) {
            int asked = what;
            asksAlone(38, "Tells something of a YEAR.", (y, place) -> y.ofYear(place, asked));
        }
        places(38, "if there is no such YEAR", (y, place) -> y.ofYear(place, 0));
        bounds(38, "if what is not 0 to 4", 0, 4, (y, what) -> y.ofYear(0, what));
        placeFirst(38, y -> y.ofYear(4, 5), y -> y.ofYear(-1, -1));
    }

    private static void promise39() {
        sentence(39, "of two numbers multiplied", x -> {
            due("true false true", told(x.isLeap(2, 2), x.isLeap(2, 1), x.isLeap(20, 20)));
            due("false false true", told(x.isLeap(10, 10), x.isLeap(3, 3), x.isLeap(0, 7)));
            due("true true false", told(x.isLeap(-2, 2), x.isLeap(-2, -2), x.isLeap(-10, 10)));
            due("false true false", told(x.isLeap(300, 1), x.isLeap(1, 400), x.isLeap(-1, 1)));
        });
        sentence(39, "also beyond what an int can hold", x -> {
            // In an int 2147483700 would be -2147483596, which is a multiple of 4 and not of 100.
            due("false false", told(x.isLeap(21474837, 100), x.isLeap(100, -21474837)));
            due("false true", told(x.isLeap(1000000010, 10), x.isLeap(1000000000, 4)));
            // In an int 4294967300 would be 4, and 4294967396 would be 100.
            due("false true", told(x.isLeap(42949673, 100), x.isLeap(1073741849, 4)));
            due("false true", told(x.isLeap(-42949673, 100), x.isLeap(4, -1073741849)));
        });
        sentence(39, "however great or small that is", x -> {
            due("true false", told(x.isLeap(LEAST, LEAST), x.isLeap(MOST, MOST)));
            due("true false", told(x.isLeap(LEAST, MOST), x.isLeap(MOST, 100)));
            due("true true", told(x.isLeap(LEAST, 100), x.isLeap(LEAST, -1)));
            due("true false", told(x.isLeap(LEAST, 1), x.isLeap(MOST, 1)));
            due("true true", told(x.isLeap(LAST, 4), x.isLeap(LAST + 1, 1)));
            due("true true", told(x.isLeap(0, MOST), x.isLeap(LEAST, 0)));
        });
        sentence(39, "`one`: any number", x -> {
            due("true false", told(x.isLeap(LEAST, 1), x.isLeap(MOST, 1)));
            due("true false", told(x.isLeap(0, 1), x.isLeap(-1, 1)));
        });
        sentence(39, "`other`: any number", x -> {
            due("true false", told(x.isLeap(1, LEAST), x.isLeap(1, MOST)));
            due("true false", told(x.isLeap(1, 0), x.isLeap(1, -1)));
        });
        sentence(39, "Returns whether it is so.", none -> still(mixed(), true, x -> x.isLeap(LEAST, 25)));
    }

    private static void promise40() {
        sentence(40, "Tells whether a FEAST is IN a YEAR of the shelf.", x -> {
            x.feast(0, 2, 29);
            x.feast(1, 2, 28);
            x.feast(2, 1, 29);
            x.feast(3, 12, 31);
            for (int year : new int[] {2024, 2000, 0, -4, -400}) {
                x.year(3, year);
                due("true true", told(x.hasFeast(3, 0, false), x.hasFeast(3, 1, false)));
                due("true true", told(x.hasFeast(3, 2, false), x.hasFeast(3, 3, false)));
            }
            for (int year : new int[] {2023, 1900, -1, -100, LAST, -LAST}) {
                x.year(3, year);
                due("false true", told(x.hasFeast(3, 0, false), x.hasFeast(3, 1, false)));
                due("true true", told(x.hasFeast(3, 2, false), x.hasFeast(3, 3, false)));
            }
        });
        sentence(40, "false for nothing", none -> {
            for (int place = 0; place < 4; place++) {
                due("false false", told(mixed().hasFeast(1, place, true), mixed().hasFeast(place, 1, true)));
            }
        });
        for (boolean isNothing : BOTH) {
            asksAlone(40, "Returns whether it is IN it", (x, place) -> x.hasFeast(place, 0, isNothing));
            places(40, "if there is no such YEAR", (x, place) -> x.hasFeast(place, 0, isNothing));
            places(40, "or FEAST", (x, place) -> x.hasFeast(0, place, isNothing));
        }
        sentence(40, "`isNothing`: whether nothing is asked for in its place", none -> {
            noIndex(x -> x.hasFeast(0, 4, true));
            noIndex(x -> x.hasFeast(0, -1, true));
            noIndex(x -> x.hasFeast(4, 0, true));
        });
    }

    private static void promises41And42() {
        orders(41, AS_LEAF_ORDER, x -> {
            x.year(0, 0);
            x.year(1, -1);
            x.year(2, 1);
            x.year(3, 0);
        }, (x, one, other, what) -> x.yearOrder(one, other, what));
        sentence(41, "Holds two YEARS beside each other.", x -> {
            x.year(0, -LAST);
            x.year(1, LAST);
            due("-1 1 0", told(x.yearOrder(0, 1, 0), x.yearOrder(0, 1, 1), x.yearOrder(0, 1, 2)));
            due("1 0 1", told(x.yearOrder(1, 0, 0), x.yearOrder(1, 0, 1), x.yearOrder(1, 0, 2)));
        });
        sameness(42, 1, x -> {
            x.year(0, 2024);
            x.year(1, 2025);
            x.year(2, -2024);
            x.year(3, 2024);
        }, (x, one, what, other) -> x.isYear(one, what, other));
        sentence(42, "Tells whether a YEAR is the same as something.", x -> {
            x.year(0, LAST);
            x.year(1, LAST - 1);
            x.year(2, -LAST);
            due("true false false", told(x.isYear(0, 1, 0), x.isYear(0, 1, 1), x.isYear(0, 1, 2)));
        });
    }

    private static void promise43() {
        int[] years = {0, 1, 10, 100, 1000};
        for (boolean isOfUnit : BOTH) {
            sentence(43, "Returns that, as a text.", none -> {
                for (int unit = 1; unit <= 4; unit++) {
                    int size = years[unit];
                    Monthyears x = new Monthyears();
                    int[][] ways = {{size, 1}, {size + size - 1, 1}, {2 * size, 2}, {size - 1, 0}, {0, 0}};
                    for (int[] way : ways) {
                        x.year(0, -5);
                        x.year(1, way[0] - 5);
                        due(Integer.toString(way[1]), x.yearTo(0, 1, unit, isOfUnit));
                        due(Integer.toString(-way[1]), x.yearTo(1, 0, unit, isOfUnit));
                    }
                }
            });
            sentence(43, "Tells how many UNITS one goes from a YEAR to another one.", x -> {
                x.year(0, -LAST);
                x.year(1, LAST);
                String[] units = {"", "1999999998", "199999999", "19999999", "1999999"};
                for (int unit = 1; unit <= 4; unit++) {
                    due(units[unit], x.yearTo(0, 1, unit, isOfUnit));
                    due("-" + units[unit], x.yearTo(1, 0, unit, isOfUnit));
                }
            });
            sentence(43, "`other`: to which one", none -> {
                for (int place = 0; place < 4; place++) {
                    due("0", mixed().yearTo(place, place, 1, isOfUnit));
                }
            });
            sentence(43, "`year`: from which YEAR", none -> {
                due("100", mixed().yearTo(0, 1, 1, isOfUnit));
                due("-100", mixed().yearTo(1, 0, 1, isOfUnit));
            });
            asksAlone(43, "Tells how many UNITS", (x, place) -> x.yearTo(place, 1, 1, isOfUnit));
            places(43, "(both)", (x, place) -> x.yearTo(place, 0, 1, isOfUnit));
            places(43, "(both)", (x, place) -> x.yearTo(0, place, 1, isOfUnit));
            bounds(43, "`unit`: the UNIT, 1 to 4", 1, 4, (x, unit) -> x.yearTo(1, 0, unit, isOfUnit));
            bounds(43, "if unit is not 1 to 4", 1, 4, (x, unit) -> x.yearTo(0, 1, unit, isOfUnit));
            placeFirst(43, x -> x.yearTo(4, 0, 0, isOfUnit), x -> x.yearTo(0, 4, 5, isOfUnit));
        }
        sentence(43, "(the same comes of it)", x -> {
            x.year(1, -1234);
            for (int unit = 1; unit <= 4; unit++) {
                due(x.yearTo(0, 1, unit, false), x.yearTo(0, 1, unit, true));
            }
        });
    }

    private static void promise44() {
        int[] lengths = {31, 28, 31, 30, 31, 30, 31, 31, 30, 31, 30, 31};
        thing(44, "0 its MONTH", 0, Monthyears::ofFeast, 2, 4, 12, 2);
        thing(44, "1 its day", 1, Monthyears::ofFeast, 29, 30, 31, 1);
        thing(44, "2 its MONTH by its name, as a number", 2, Monthyears::ofFeast, 2, 4, 12, 2);
        sentence(44, "3 the LENGTH of its MONTH in a YEAR that is not LEAP", y -> {
            for (int month = 1; month <= 12; month++) {
                y.feast(0, month, 1);
                due(lengths[month - 1], y.ofFeast(0, 3));
            }
        });
        sentence(44, "4 in a LEAP one", y -> {
            for (int month = 1; month <= 12; month++) {
                y.feast(0, month, 1);
                due(month == 2 ? 29 : lengths[month - 1], y.ofFeast(0, 4));
            }
        });
        for (int what = 0; what <= 4; what++) {
            int asked = what;
            asksAlone(44, "Tells something of a FEAST.", (y, place) -> y.ofFeast(place, asked));
        }
        sentence(44, "Returns that.", y ->
            due("1 1 1 31 31",
                told(y.ofFeast(3, 0), y.ofFeast(3, 1), y.ofFeast(3, 2), y.ofFeast(3, 3), y.ofFeast(3, 4))));
        places(44, "if there is no such FEAST", (y, place) -> y.ofFeast(place, 0));
        bounds(44, "if what is not 0 to 4", 0, 4, (y, what) -> y.ofFeast(0, what));
        placeFirst(44, y -> y.ofFeast(4, 5), y -> y.ofFeast(-1, -1));
    }

    private static void promise45() {
        sentence(45, "Tells whether a FEAST is IN the YEAR with that number.", x -> {
            x.feast(0, 2, 29);
            x.feast(1, 2, 28);
            x.feast(2, 3, 1);
            x.feast(3, 12, 29);
            for (int place = 0; place < 4; place++) {
                for (int year : new int[] {2024, 2000, 0, -4, -400, 999999600}) {
                    due(true, x.isInYear(place, year));
                }
                for (int year : new int[] {2023, 1900, 2100, 1, -1, -100}) {
                    due(place != 0, x.isInYear(place, year));
                }
            }
        });
        sentence(45, "`number`: the number of the YEAR", x -> {
            x.feast(0, 2, 29);
            due("false false", told(x.isInYear(0, LAST), x.isInYear(0, -LAST)));
            due("true true", told(x.isInYear(1, LAST), x.isInYear(1, -LAST)));
            due("true true", told(x.isInYear(0, LAST - 3), x.isInYear(0, 3 - LAST)));
        });
        asksAlone(45, "Returns whether it is so.", (x, place) -> x.isInYear(place, 2023));
        places(45, "if there is no such FEAST", (x, place) -> x.isInYear(place, 2000));
        bounds(45, "if number is not -999999999 to 999999999", -LAST, LAST, (x, number) -> x.isInYear(0, number));
        bounds(45, "if number is not -999999999 to 999999999", -LAST, LAST, (x, number) -> x.isInYear(1, number));
        placeFirst(45, x -> x.isInYear(4, LAST + 1), x -> x.isInYear(-1, LEAST));
    }

    private static void promises46And47() {
        orders(46, AS_LEAF_ORDER, x -> {
            x.feast(0, 2, 29);
            x.feast(1, 2, 28);
            x.feast(2, 3, 1);
            x.feast(3, 2, 29);
        }, (x, one, other, what) -> x.feastOrder(one, other, what));
        sentence(46, "Holds two FEASTS beside each other.", x -> {
            x.feast(0, 1, 31);
            x.feast(1, 2, 1);
            due("-1 1 0", told(x.feastOrder(0, 1, 0), x.feastOrder(0, 1, 1), x.feastOrder(0, 1, 2)));
            due("1 0 1", told(x.feastOrder(1, 0, 0), x.feastOrder(1, 0, 1), x.feastOrder(1, 0, 2)));
            x.feast(0, 1, 1);
            x.feast(1, 12, 31);
            due("-1 1", told(x.feastOrder(0, 1, 0), x.feastOrder(1, 0, 0)));
        });
        sameness(47, 2, x -> {
            x.feast(0, 1, 2);
            x.feast(1, 2, 1);
            x.feast(2, 1, 3);
            x.feast(3, 1, 2);
        }, (x, one, what, other) -> x.isFeast(one, what, other));
        sentence(47, "Tells whether a FEAST is the same as something.", x -> {
            x.feast(0, 2, 29);
            x.feast(1, 2, 28);
            x.feast(2, 3, 29);
            due("true false false", told(x.isFeast(0, 2, 0), x.isFeast(0, 2, 1), x.isFeast(0, 2, 2)));
        });
    }

    private static void promise48() {
        thing(48, "0 the number of its YEAR", 0, Monthyears::ofDay, 2024, -1, LAST, -LAST);
        thing(48, "1 its MONTH", 1, Monthyears::ofDay, 2, 11, 12, 1);
        thing(48, "2 its number there", 2, Monthyears::ofDay, 29, 7, 31, 2);
        thing(48, "3 its PLACE", 3, Monthyears::ofDay, 60, 311, 365, 2);
        thing(48, "4 its WEEKDAY", 4, Monthyears::ofDay, 4, 7, 5, 2);
        thing(48, "5 1 if it is the last one of its MONTH, otherwise 0", 5, Monthyears::ofDay, 1, 0, 1, 0);
        sentence(48, "Returns that.", y -> {
            int[][] days = {{2023, 2, 28, 59, 2, 1}, {2024, 2, 28, 59, 3, 0}, {2023, 3, 1, 60, 3, 0},
                {2024, 3, 1, 61, 5, 0},
                {1900, 2, 28, 59, 3, 1}, {0, 1, 1, 1, 6, 0}, {0, 12, 31, 366, 7, 1}, {-1, 12, 31, 365, 5, 1},
                {1970, 1, 1, 1, 4, 0}, {1969, 12, 31, 365, 3, 1}, {-LAST, 1, 1, 1, 1, 0}, {LAST, 12, 30, 364, 4, 0}};
            for (int[] day : days) {
                y.leaf(0, day[0], day[1]);
                y.dayAt(0, 0, day[2]);
                for (int what = 0; what <= 5; what++) {
                    due(day[what], y.ofDay(0, what));
                }
            }
        });
        for (int what = 0; what <= 5; what++) {
            int asked = what;
            asksAlone(48, "Tells something of a DAY.", (y, place) -> y.ofDay(place, asked));
        }
        places(48, "if there is no such DAY", (y, place) -> y.ofDay(place, 0));
        bounds(48, "if what is not 0 to 5", 0, 5, (y, what) -> y.ofDay(0, what));
        placeFirst(48, y -> y.ofDay(4, 6), y -> y.ofDay(-1, -1));
    }

    private static void promises49And50() {
        asksAlone(49, "Tells the NUMBER of a DAY.", (x, place) -> x.number(place));
        sentence(49, "Returns its NUMBER, as a text.", none -> {
            Monthyears x = mixed();
            due("19782 -719583 365241780471 -365243219161", told(x.number(0), x.number(1), x.number(2), x.number(3)));
            x.leaf(0, 1970, 1);
            x.dayAt(0, 0, 1);
            x.dayAt(1, 0, 2);
            x.leaf(0, 1969, 12);
            x.dayEnd(2, 0);
            due("0 1 -1", told(x.number(0), x.number(1), x.number(2)));
        });
        places(49, "if there is no such DAY", (x, place) -> x.number(place));

        orders(50, AS_LEAF_ORDER, x -> {
            x.leaf(0, 0, 2);
            x.leaf(1, 0, 3);
            x.dayEnd(0, 0);
            x.dayAt(1, 0, 28);
            x.dayAt(2, 1, 1);
            x.dayEnd(3, 0);
        }, (x, one, other, what) -> x.dayOrder(one, other, what));
        sentence(50, "Holds two DAYS beside each other.", none -> {
            Monthyears x = mixed();
            due("-1 1 0", told(x.dayOrder(3, 2, 0), x.dayOrder(3, 2, 1), x.dayOrder(3, 2, 2)));
            due("1 0 1", told(x.dayOrder(2, 3, 0), x.dayOrder(2, 3, 1), x.dayOrder(2, 3, 2)));
            x.leaf(0, 2023, 12);
            x.dayEnd(0, 0);
            x.leaf(0, 2024, 1);
            x.dayAt(1, 0, 1);
            due("-1 1", told(x.dayOrder(0, 1, 0), x.dayOrder(1, 0, 0)));
        });
    }
}
