/** The sentences of the promises 21 to 26: feasts come to be. */
final class FeastEdges extends Edges {
    private static final int[] MOST_DAYS = {31, 29, 31, 30, 31, 30, 31, 31, 30, 31, 30, 31};

    private FeastEdges() {
    }

    static void all() {
        promise21();
        promise22();
        promise23();
        promise24();
        promise25();
        promise26();
    }

    private static void promise21() {
        onlyThere(21, "Another FEAST lies there.", FEAST, (x, place) -> x.feast(place, 7, 7));
        sentence(21, "`month`: its MONTH", x -> {
            for (int month = 1; month <= 12; month++) {
                x.feast(0, month, 1);
                feastIs(x, 0, month, 1);
            }
        });
        sentence(21, "`day`: its day", x -> {
            for (int day = 1; day <= 31; day++) {
                x.feast(0, 12, day);
                feastIs(x, 0, 12, day);
            }
        });
        sentence(21, "Returns 1 if it is IN each YEAR, otherwise 0", x -> {
            due("1 1 0 1", told(x.feast(0, 2, 1), x.feast(0, 2, 28), x.feast(0, 2, 29), x.feast(0, 3, 1)));
            due("1 1 1 1", told(x.feast(0, 1, 29), x.feast(0, 3, 29), x.feast(0, 1, 31), x.feast(0, 4, 30)));
        });
        sentence(21, "-9 if that MONTH has no such day even in a LEAP YEAR", none -> {
            for (int month = 1; month <= 12; month++) {
                int of = month;
                int most = MOST_DAYS[month - 1];
                Monthyears x = mixed();
                for (int day = most + 1; day <= 31; day++) {
                    int beyond = day;
                    refused(x, y -> y.feast(1, of, beyond));
                }
                due(month == 2 ? 0 : 1, x.feast(1, month, most));
                feastIs(x, 1, month, most);
            }
        });
        places(21, "if there is no such FEAST", (x, place) -> x.feast(place, 7, 7));
        bounds(21, "if month is not 1 to 12", 1, 12, (x, month) -> x.feast(0, month, 7));
        bounds(21, "or day not 1 to 31", 1, 31, (x, day) -> x.feast(0, 7, day));
        placeFirst(21, x -> x.feast(4, 13, 32), x -> x.feast(-1, 7, 0), x -> x.feast(4, 0, 7), x -> x.feast(4, 2, 30));
        sentence(21, "Throws `IllegalArgumentException`", none -> {
            noArgument(x -> x.feast(0, 2, 32));
            noArgument(x -> x.feast(0, 4, 0));
            noArgument(x -> x.feast(0, 0, 31));
            noArgument(x -> x.feast(0, 13, 31));
        });
    }

    private static void promise22() {
        onlyThere(22, "Another FEAST lies there", FEAST, (x, place) -> x.feastRound(place, 6, 7));
        sentence(22, "whose MONTH stands so many months behind the MONTH 1, round and round", x -> {
            int[][] behind = {{0, 1}, {11, 12}, {12, 1}, {13, 2}, {-1, 12}, {-11, 2}, {-12, 1}, {-13, 12}};
            for (int[] told : behind) {
                x.feastRound(0, told[0], 7);
                feastIs(x, 0, told[1], 7);
            }
        });
        sentence(22, "`months`: how many months, any number", x -> {
            due("8 7", told(x.feastRound(0, MOST, 31), x.feastRound(0, MOST - 1, 31)));
            due("5 6", told(x.feastRound(0, LEAST, 31), x.feastRound(0, LEAST + 1, 30)));
            feastIs(x, 0, 6, 30);
            refused(x, y -> y.feastRound(0, LEAST + 1, 31));
        });
        sentence(22, "`day`: its day", x -> {
            for (int day = 1; day <= 31; day++) {
                x.feastRound(0, -1, day);
                feastIs(x, 0, 12, day);
            }
        });
        sentence(22, "Returns its MONTH", x -> {
            due("2 2", told(x.feastRound(0, 1, 1), x.feastRound(0, 1, 29)));
            due("2 12", told(x.feastRound(0, -11, 28), x.feastRound(0, -1, 31)));
        });
        sentence(22, "-9 if that MONTH has no such day even in a LEAP YEAR", none -> {
            for (int month = 1; month <= 12; month++) {
                int behind = month - 13;
                int most = MOST_DAYS[month - 1];
                Monthyears x = mixed();
                for (int day = most + 1; day <= 31; day++) {
                    int beyond = day;
                    refused(x, y -> y.feastRound(1, behind, beyond));
                }
                due(month, x.feastRound(1, behind, most));
                feastIs(x, 1, month, most);
            }
        });
        places(22, "if there is no such FEAST", (x, place) -> x.feastRound(place, 6, 7));
        bounds(22, "if day is not 1 to 31", 1, 31, (x, day) -> x.feastRound(0, 6, day));
        placeFirst(22, x -> x.feastRound(4, 6, 32), x -> x.feastRound(-1, LEAST, 0), x -> x.feastRound(4, 1, 30));
        sentence(22, "Throws `IllegalArgumentException`", none -> {
            noArgument(x -> x.feastRound(0, 1, 32));
            noArgument(x -> x.feastRound(0, 3, 0));
        });
    }

    private static void promise23() {
        for (boolean isField : BOTH) {
            onlyThere(23, "The FEAST is moved to another MONTH", FEAST, (x, place) -> x.feastMonth(place, 9, isField));
            sentence(23, "its day stays", x -> {
                x.feast(0, 1, 28);
                for (int month = 12; month >= 1; month--) {
                    due(28, x.feastMonth(0, month, isField));
                    feastIs(x, 0, month, 28);
                }
                x.feast(0, 1, 29);
                due(29, x.feastMonth(0, 2, isField));
                feastIs(x, 0, 2, 29);
                x.feast(0, 1, 30);
                due(30, x.feastMonth(0, 4, isField));
                x.feast(0, 1, 31);
                due(31, x.feastMonth(0, 12, isField));
                x.feast(0, 12, 1);
                due(1, x.feastMonth(0, 1, isField));
            });
            sentence(23, "if that MONTH has no such day even in a LEAP YEAR, becomes the last one", x -> {
                for (int month = 1; month <= 12; month++) {
                    x.feast(0, 12, 31);
                    due(MOST_DAYS[month - 1], x.feastMonth(0, month, isField));
                    feastIs(x, 0, month, MOST_DAYS[month - 1]);
                }
                x.feast(0, 4, 30);
                due(29, x.feastMonth(0, 2, isField));
                due(29, x.feastMonth(0, 1, isField));
                feastIs(x, 0, 1, 29);
            });
            sentence(23, "Returns its day then.", x -> {
                x.feast(0, 3, 31);
                due("30 29 29",
                    told(x.feastMonth(0, 11, isField), x.feastMonth(0, 2, isField), x.feastMonth(0, 2, isField)));
            });
            places(23, "if there is no such FEAST", (x, place) -> x.feastMonth(place, 5, isField));
            bounds(23, "if month is not 1 to 12", 1, 12, (x, month) -> x.feastMonth(0, month, isField));
            placeFirst(23, x -> x.feastMonth(4, 13, isField), x -> x.feastMonth(-1, 0, isField));
        }
        sentence(23, "`month`: the MONTH", x -> {
            for (int month = 1; month <= 12; month++) {
                x.feastMonth(0, month, false);
                feastIs(x, 0, month, 1);
            }
        });
        sentence(23, "(nothing else comes of it)", x -> {
            x.feast(0, 3, 31);
            x.feast(1, 3, 31);
            due(x.feastMonth(0, 2, false), x.feastMonth(1, 2, true));
            due(0, x.feastOrder(0, 1, 0));
        });
    }

    private static void promise24() {
        for (boolean isField : BOTH) {
            onlyThere(24, "The FEAST is moved to another day of its MONTH.", FEAST,
                (x, place) -> x.feastDay(place, 3, isField));
            sentence(24, "another day of its MONTH", none -> {
                for (int month = 1; month <= 12; month++) {
                    Monthyears x = new Monthyears();
                    x.feast(0, month, 15);
                    due(15, x.feastDay(0, 1, isField));
                    feastIs(x, 0, month, 1);
                    due(1, x.feastDay(0, MOST_DAYS[month - 1], isField));
                    feastIs(x, 0, month, MOST_DAYS[month - 1]);
                }
            });
            sentence(24, "Returns its day before", x -> {
                x.feast(0, 2, 28);
                due("28 29 29",
                    told(x.feastDay(0, 29, isField), x.feastDay(0, 29, isField), x.feastDay(0, 1, isField)));
            });
            sentence(24, "-9 if the MONTH has no such day even in a LEAP YEAR", none -> {
                for (int month = 1; month <= 12; month++) {
                    Monthyears x = mixed();
                    x.feast(1, month, 15);
                    for (int day = MOST_DAYS[month - 1] + 1; day <= 31; day++) {
                        int beyond = day;
                        refused(x, y -> y.feastDay(1, beyond, isField));
                    }
                }
            });
            places(24, "if there is no such FEAST", (x, place) -> x.feastDay(place, 5, isField));
            bounds(24, "if day is not 1 to 31", 1, 31, (x, day) -> x.feastDay(2, day, isField));
            placeFirst(24, x -> x.feastDay(4, 32, isField), x -> x.feastDay(-1, 0, isField));
            sentence(24, "Throws `IllegalArgumentException`", none -> {
                noArgument(x -> x.feastDay(0, 32, isField));
                noArgument(x -> x.feastDay(1, 0, isField));
            });
        }
        sentence(24, "`day`: the day", x -> {
            for (int day = 1; day <= 31; day++) {
                x.feastDay(0, day, false);
                feastIs(x, 0, 1, day);
            }
        });
        sentence(24, "(nothing else comes of it)", x -> {
            x.feast(0, 2, 28);
            x.feast(1, 2, 28);
            due(x.feastDay(0, 29, false), x.feastDay(1, 29, true));
            due(x.feastDay(0, 30, false), x.feastDay(1, 30, true));
            due(0, x.feastOrder(0, 1, 0));
        });
    }

    private static void promise25() {
        onlyThere(25, "The FEAST of the MONTH and the number in it of a DAY of the shelf lies there.", FEAST,
            (x, place) -> x.feastOf(place, 1));
        sentence(25, "of the MONTH and the number in it of a DAY", x -> {
            for (int month = 1; month <= 12; month++) {
                x.leaf(2, 2023, month);
                int last = x.dayEnd(0, 2);
                x.feastOf(3, 0);
                feastIs(x, 3, month, last);
                x.dayAt(0, 2, 1);
                x.feastOf(3, 0);
                feastIs(x, 3, month, 1);
            }
        });
        sentence(25, "of a DAY of the shelf", none -> {
            int[][] feasts = {{2, 29}, {11, 7}, {12, 31}, {1, 2}};
            for (int place = 0; place < 4; place++) {
                Monthyears x = mixed();
                x.feastOf(1, place);
                feastIs(x, 1, feasts[place][0], feasts[place][1]);
            }
        });
        sentence(25, "Returns 1 if it is IN each YEAR, otherwise 0.", x -> {
            x.leaf(0, 2024, 2);
            int[][] days = {{1, 1}, {28, 1}, {29, 0}};
            for (int[] day : days) {
                x.dayAt(0, 0, day[0]);
                due(day[1], x.feastOf(0, 0));
            }
            x.leaf(0, 2024, 1);
            x.dayAt(0, 0, 29);
            due(1, x.feastOf(0, 0));
            x.dayEnd(0, 0);
            due(1, x.feastOf(0, 0));
        });
        places(25, "if there is no such FEAST", (x, place) -> x.feastOf(place, 0));
        places(25, "or DAY", (x, place) -> x.feastOf(0, place));
    }

    private static void promise26() {
        onlyThere(26, "The same FEAST lies there as on another place.", FEAST,
            (x, place) -> x.feastLike(place, place == 0 ? 1 : 0));
        sentence(26, "The same FEAST", none -> {
            int[][] feasts = {{2, 29}, {4, 30}, {12, 31}, {2, 1}};
            for (int other = 0; other < 4; other++) {
                Monthyears x = mixed();
                x.feastLike(3 - other, other);
                feastIs(x, 3 - other, feasts[other][0], feasts[other][1]);
                feastIs(x, other, feasts[other][0], feasts[other][1]);
            }
        });
        sentence(26, "`other`: another one (or the same)", none -> {
            for (int place = 0; place < 4; place++) {
                int at = place;
                still(mixed(), 1, x -> x.feastLike(at, at));
            }
        });
        sentence(26, "Returns 1 if they were the same already, otherwise 0.", x -> {
            due(1, x.feastLike(0, 3));
            x.feast(0, 2, 28);
            x.feast(3, 2, 29);
            due("0 1 1", told(x.feastLike(0, 3), x.feastLike(0, 3), x.feastLike(3, 0)));
            x.feast(0, 3, 29);
            due(0, x.feastLike(0, 3));
            x.feast(0, 1, 31);
            x.feast(3, 2, 1);
            due(0, x.feastLike(3, 0));
        });
        places(26, "if there is no such FEAST (both)", (x, place) -> x.feastLike(place, 0));
        places(26, "if there is no such FEAST (both)", (x, place) -> x.feastLike(0, place));
    }
}
