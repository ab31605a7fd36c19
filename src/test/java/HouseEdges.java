import java.lang.reflect.Field;
import java.math.BigInteger;
import java.util.ArrayList;
import java.util.List;

/** The sentences of the promises 1 and 51 to 56: a new object, and the house. */
final class HouseEdges extends Edges {
    private HouseEdges() {
    }

    static void all() {
        promise1();
        promise51();
        promises52And53();
        promise54();
        promise55();
        promise55Parts();
        promise55Broken();
        promise56();
    }

    private static void promise1() {
        sentence(1, "Creates a shelf on which all lies at the beginning of the year 0.", x -> {
            for (int place = 0; place < 4; place++) {
                leafIs(x, place, 0, 1);
                due(0, x.ofYear(place, 0));
                feastIs(x, place, 1, 1);
                dayIs(x, place, 0, 1, 1);
            }
            due(0, x.house(4));
        });
        sentence(1, "Creates a shelf", x -> {
            Monthyears other = new Monthyears();
            String first = String.join(", ", lying(other));
            x.leaf(0, 5, 5);
            x.year(0, 5);
            x.feast(0, 5, 5);
            x.dayEnd(0, 0);
            x.knock();
            due(first, String.join(", ", lying(other)));
            due(first, String.join(", ", lying(new Monthyears())));
        });
    }

    private static void knownBy(int kind, String words, int... things) {
        sentence(51, words, x -> {
            for (int what = 0; what <= 12; what++) {
                boolean isKnown = false;
                for (int thing : things) {
                    isKnown = isKnown || thing == what;
                }
                due(told(what, isKnown), told(what, x.knows(kind, what)));
            }
        });
    }

    private static void promise51() {
        String leaf = "a LEAF knows its MONTH, its COUNT, the RANK, the number and the SIDE of its YEAR, "
            + "and the UNITS 0 to 4 and SIDES as steps";
        knownBy(0, leaf, 1, 2, 3, 4, 5, 7, 8, 9, 10, 11, 12);
        knownBy(1, "a YEAR knows its RANK, number and SIDE, and the UNITS 1 to 4 and SIDES as steps", 3, 4, 5, 8, 9,
            10, 11, 12);
        knownBy(2, "a FEAST knows its day and its MONTH, and no steps", 0, 1);
        String[] words = {"0 a day of the MONTH", "1 the MONTH", "2 the COUNT", "3 the RANK",
            "4 the number of the YEAR",
            "5 the SIDE", "6 DAYS", "7 to 11 the UNITS 0 to 4", "7 to 11 the UNITS 0 to 4", "7 to 11 the UNITS 0 to 4",
            "7 to 11 the UNITS 0 to 4", "7 to 11 the UNITS 0 to 4", "12 SIDES"};
        String[] kinds = {"--F", "L-F", "L--", "LY-", "LY-", "LY-", "---", "L--", "LY-", "LY-", "LY-", "LY-", "LY-"};
        for (int what = 0; what <= 12; what++) {
            int asked = what;
            sentence(51, words[what], x -> {
                String leafAndYear = (x.knows(0, asked) ? "L" : "-") + (x.knows(1, asked) ? "Y" : "-");
                due(kinds[asked], leafAndYear + (x.knows(2, asked) ? "F" : "-"));
            });
        }
        String[] kindWords = {"0 a LEAF", "1 a YEAR", "2 a FEAST"};
        for (int kind = 0; kind <= 2; kind++) {
            int of = kind;
            sentence(51, kindWords[kind], x -> due(of == 2, x.knows(of, 0)));
            sentence(51, kindWords[kind], x -> due(of == 0, x.knows(of, 2)));
            bounds(51, "or what not 0 to 12", 0, 12, (x, what) -> x.knows(of, what));
        }
        bounds(51, "if kind is not 0 to 2", 0, 2, (x, kind) -> x.knows(kind, 0));
        bounds(51, "if kind is not 0 to 2", 0, 2, (x, kind) -> x.knows(kind, 12));
        asksAlone(51, "Returns whether it is told just above that it knows this.",
            (x, place) -> x.knows(place % 3, 3 * place));
    }

    private static void promises52And53() {
        sentence(52, "or of the last one", x -> due(LAST, x.edge(true)));
        sentence(52, "Returns the number of the first YEAR that there is", x -> due(-LAST, x.edge(false)));
        sentence(52, "`isLast`: whether the last one is asked for", x -> {
            due(365, x.year(0, x.edge(true)));
            refused(x, y -> y.later(0, 1, false));
            due(365, x.year(0, x.edge(false)));
            refused(x, y -> y.later(0, 1, true));
        });
        asksAlone(52, "Tells the ends of the calendar.", (x, place) -> x.edge(place % 2 == 0));

        sentence(53, "Returns how often one knocked, with this.", x -> {
            for (int knock = 1; knock <= 512; knock++) {
                due(knock, x.knock());
            }
        });
        sentence(53, "Knocks.", none -> {
            Monthyears x = mixed();
            String[] before = lying(x);
            due(2, x.knock());
            String[] after = lying(x);
            due("knocks 2", after[16]);
            after[16] = before[16];
            due(String.join(", ", before), String.join(", ", after));
        });
    }

    private static void promise54() {
        sentence(54, "0 of how many LEAVES the YEAR is LEAP", x -> {
            int[] leaps = {4, 3, 2, 1, 0};
            for (int place = 0; place < 4; place++) {
                due(leaps[place], x.house(0));
                x.leaf(place, place % 2 == 0 ? 1900 : LAST, place % 2 == 0 ? 2 : 12);
            }
            due(0, x.house(0));
            due("4 4 0", told(x.house(1), x.house(2), x.house(3)));
        });
        sentence(54, "1 how many YEARS are LEAP", x -> {
            for (int place = 0; place < 4; place++) {
                due(4 - place, x.house(1));
                x.year(place, place % 2 == 0 ? -100 : -LAST);
            }
            due(0, x.house(1));
            due("4 4 0", told(x.house(0), x.house(2), x.house(3)));
        });
        sentence(54, "2 how many FEASTS are IN each YEAR", x -> {
            for (int place = 0; place < 4; place++) {
                due(4 - place, x.house(2));
                x.feast(place, 2, 29);
            }
            due(0, x.house(2));
            x.feast(3, 2, 28);
            due(1, x.house(2));
            x.feast(2, 3, 29);
            due(2, x.house(2));
        });
        sentence(54, "3 how many DAYS are the last one of their MONTH", x -> {
            x.leaf(0, 2023, 2);
            x.leaf(1, 2024, 2);
            for (int place = 0; place < 4; place++) {
                due(place, x.house(3));
                x.dayEnd(place, place % 2);
            }
            due(4, x.house(3));
            x.dayAt(3, 1, 28);
            due(3, x.house(3));
            x.dayAt(3, 0, 28);
            due(4, x.house(3));
            x.dayAt(0, 0, 1);
            due(3, x.house(3));
        });
        sentence(54, "4 how often one knocked", x -> {
            for (int knock = 0; knock < 255; knock++) {
                due(knock, x.house(4));
                x.knock();
            }
            due(255, x.house(4));
        });
        for (int what = 0; what <= 4; what++) {
            int asked = what;
            asksAlone(54, "Tells something of the shelf.", (x, place) -> x.house(asked));
        }
        sentence(54, "Returns that.",
            x -> due("4 4 4 0 0", told(x.house(0), x.house(1), x.house(2), x.house(3), x.house(4))));
        bounds(54, "if what is not 0 to 4", 0, 4, (x, what) -> x.house(what));
    }

    private static void soundWith(String words, int[][] leaves, int[] years, int[][] feasts) {
        sentence(55, words, none -> {
            for (int shift = 0; shift < 16; shift++) {
                Monthyears x = new Monthyears();
                for (int place = 0; place < 4; place++) {
                    // Each thing comes beside each other one, also on one place beside the same on another.
                    int at = place * (shift / 4) + shift;
                    x.leaf(place, leaves[at % leaves.length][0], leaves[at % leaves.length][1]);
                    x.year(place, years[at % years.length]);
                    x.feast(place, feasts[at % feasts.length][0], feasts[at % feasts.length][1]);
                    x.dayEnd(place, place);
                }
                still(x, true, y -> y.isSound());
            }
        });
    }

    private static void promise55() {
        int[][] leaves = {{0, 1}, {0, 12}, {-1, 12}, {1, 1}, {2024, 2}, {2023, 2}, {1900, 2}, {LAST, 12}, {LAST, 11},
            {-LAST, 1}};
        int[] years = {0, 1, -1, 1600, 1900, 2000, 2024, LAST, -LAST, 999999600, 999999599};
        int[][] feasts = {{2, 29}, {2, 28}, {3, 1}, {1, 31}, {12, 31}, {1, 1}, {4, 30}};
        soundWith("Returns whether all of this is so", leaves, years, feasts);
        sentence(55, "Tells whether the parts of the theorem hold for what lies there.", none -> {
            still(new Monthyears(), true, x -> x.isSound());
            still(mixed(), true, x -> x.isSound());
        });
    }

    /** The theorem holds of all that can lie there: each part is tested where it is nearest to fail. */
    private static void promise55Parts() {
        int[][] anyLeaf = {{0, 1}};
        int[] anyYear = {0};
        int[][] anyFeast = {{1, 1}};
        soundWith("as its COUNT tells is the same", new int[][] {{0, 1}, {0, 2}, {-1, 12}, {-LAST, 1}, {LAST, 12}},
            anyYear,
            anyFeast);
        soundWith("it has the day LENGTH, and neither that behind it nor the day 0",
            new int[][] {{2023, 2}, {2024, 2}, {1900, 2}, {2000, 2}, {2023, 4}, {2023, 12}}, anyYear, anyFeast);
        soundWith("if it is not the last one, the next one is behind it",
            new int[][] {{LAST, 12}, {LAST, 11}, {LAST - 1, 12}},
            anyYear, anyFeast);
        soundWith("a month back from there it lies again", new int[][] {{0, 12}, {-1, 12}, {-LAST, 1}, {LAST, 11}},
            anyYear,
            anyFeast);
        soundWith("has a NUMBER that is by 1 greater than that of its own last DAY",
            new int[][] {{2023, 12}, {2024, 2}, {2023, 2}, {-1, 12}, {1969, 12}, {-LAST, 1}, {LAST, 11}}, anyYear,
            anyFeast);
        soundWith("it is LEAP as its number tells", anyLeaf, new int[] {2000, 1900, 2024, 2023, 0, -4, -100, -1},
            anyFeast);
        soundWith("it has as many DAYS as its LEAVES have together", anyLeaf, new int[] {-LAST, LAST, 2024, 2023},
            anyFeast);
        soundWith("if its number is below 999999600, the 400 YEARS from it on have 146097 DAYS", anyLeaf,
            new int[] {999999598, 999999599, 999999600, 999999601, LAST, -LAST, -400, -399}, anyFeast);
        soundWith("of each two LEAVES", new int[][] {{2023, 12}, {2024, 1}, {2024, 12}, {2023, 1}, {2023, 12}},
            anyYear, anyFeast);
        soundWith("and each two YEARS", anyLeaf, new int[] {-1, 0, 1, LAST, -LAST}, anyFeast);
        soundWith("it is told the same by both whether the one is IN the other one", anyLeaf,
            new int[] {2023, 2024, 1900, 2000},
            new int[][] {{2, 29}, {2, 28}, {3, 1}, {1, 29}});
        soundWith("with its day, or with 28", anyLeaf, new int[] {2023, 2024},
            new int[][] {{2, 29}, {2, 28}, {2, 27}, {12, 29}});
        soundWith("they stand to each other as their DAYS of the YEAR 2000 do", anyLeaf, anyYear,
            new int[][] {{2, 28}, {2, 29}, {3, 1}, {1, 31}, {2, 1}, {12, 31}});
        soundWith("the same have the same code", new int[][] {{5, 5}, {5, 5}, {5, 6}}, new int[] {5, 5, 6},
            new int[][] {{2, 29}, {2, 29}, {2, 28}});
    }

    /** No call lays down what is not sound: only by the fields themselves is it seen that the answer is worked out. */
    private static void lay(Monthyears x, String field, int place, long value) {
        try {
            Field row = Monthyears.class.getDeclaredField(field);
            row.setAccessible(true);
            if (row.get(x) instanceof long[] counts) {
                counts[place] = value;
            } else {
                ((int[]) row.get(x))[place] = (int) value;
            }
        } catch (ReflectiveOperationException thrown) {
            throw new IllegalStateException("the state is held otherwise: " + thrown);
        }
    }

    private static void promise55Broken() {
        sentence(55, "of each FEAST and each YEAR: it is told the same by both", none -> {
            for (int place = 0; place < 4; place++) {
                Monthyears x = new Monthyears();
                lay(x, "feastMonths", place, 2);
                lay(x, "feastDays", place, 30);
                due(false, x.isSound());
                lay(x, "feastDays", place, 29);
                due(true, x.isSound());
            }
        });
        sentence(55, "of each LEAF: the LEAF so many months behind the one with the COUNT 0", none -> {
            for (int place = 0; place < 4; place++) {
                Monthyears x = new Monthyears();
                lay(x, "leafCounts", place, Long.MAX_VALUE);
                due(false, x.isSound());
                lay(x, "leafCounts", place, 11999999999L);
                due(true, x.isSound());
            }
        });
        sentence(56, "1 if isSound(), otherwise 0", x -> {
            due(checksum(x), x.digest());
            lay(x, "feastMonths", 3, 2);
            lay(x, "feastDays", 3, 30);
            due("false true", told(x.isSound(), x.digest() == checksum(x)));
        });
    }

    private static void addText(List<Long> all, String text) {
        all.add((long) text.length());
        for (char sign : text.toCharArray()) {
            all.add((long) sign);
        }
    }

    /** The numbers v of promise 56 in their order, out of what the calls of the face answer. */
    private static List<Long> numbers(Monthyears x) {
        List<Long> all = new ArrayList<>();
        for (int leaf = 0; leaf < 4; leaf++) {
            for (int what = 0; what <= 7; what++) {
                all.add((long) x.ofLeaf(leaf, what));
            }
            addText(all, x.count(leaf));
        }
        for (int year = 0; year < 4; year++) {
            for (int what = 0; what <= 4; what++) {
                all.add((long) x.ofYear(year, what));
            }
        }
        for (int feast = 0; feast < 4; feast++) {
            for (int what = 0; what <= 4; what++) {
                all.add((long) x.ofFeast(feast, what));
            }
        }
        for (int day = 0; day < 4; day++) {
            for (int what = 0; what <= 5; what++) {
                all.add((long) x.ofDay(day, what));
            }
            addText(all, x.number(day));
        }
        addNumbersOfPairs(all, x);
        return all;
    }

    private static void addNumbersOfPairs(List<Long> all, Monthyears x) {
        for (int leaf = 0; leaf < 4; leaf++) {
            for (int other = 0; other < 4; other++) {
                all.add((long) x.leafOrder(leaf, other, 0));
                addText(all, x.leafTo(leaf, other, 0, false));
                addText(all, x.leafTo(leaf, other, 1, false));
            }
        }
        for (int year = 0; year < 4; year++) {
            for (int feast = 0; feast < 4; feast++) {
                all.add(x.hasFeast(year, feast, false) ? 1L : 0L);
            }
        }
        for (int what = 0; what <= 4; what++) {
            all.add((long) x.house(what));
        }
        all.add(x.isSound() ? 1L : 0L);
    }

    /** The checksum without any wrap on the way: only the last 64 bits of the whole number are taken. */
    private static long checksum(Monthyears x) {
        BigInteger d = BigInteger.valueOf(7792);
        for (long v : numbers(x)) {
            d = d.multiply(BigInteger.valueOf(31)).add(BigInteger.valueOf(v));
        }
        return d.longValue();
    }

    private static void promise56() {
        sentence(56, "for each v in this order", none -> {
            Monthyears x = mixed();
            due(checksum(x), x.digest());
            x.leaf(1, 2024, 2);
            x.year(3, 2024);
            x.feast(3, 2, 29);
            x.dayEnd(1, 0);
            due(checksum(x), x.digest());
        });
        sentence(56, "A number d starts with 7792", x -> due(checksum(x), x.digest()));
        sentence(56, "d becomes d * 31 + v, which wraps around as a 64-bit integer", none -> {
            Monthyears x = mixed();
            x.leaf(0, -LAST, 12);
            due(checksum(x), x.digest());
        });
        sentence(56, "of a text how long it is, then each of its signs as its number in ASCII", x -> {
            x.leaf(0, -LAST, 1);
            x.leaf(1, 0, 1);
            x.leaf(2, -1, 12);
            due(checksum(x), x.digest());
        });
        sentence(56, "LEAF by LEAF, other LEAF by LEAF (itself, too) leafOrder() of 0", none -> {
            Monthyears x = new Monthyears();
            x.leaf(1, 5, 5);
            Monthyears y = new Monthyears();
            y.leaf(2, 5, 5);
            due("true true false",
                told(x.digest() == checksum(x), y.digest() == checksum(y), x.digest() == y.digest()));
        });
        sentence(56, "YEAR by YEAR, FEAST by FEAST hasFeast() (false; 1 or 0)", x -> {
            x.year(0, 2023);
            x.feast(3, 2, 29);
            due(checksum(x), x.digest());
            x.feast(0, 2, 29);
            x.year(3, 2023);
            due(checksum(x), x.digest());
        });
        sentence(56, "house() of 0 to 4", x -> {
            for (int knock = 0; knock < 2; knock++) {
                x.knock();
                due(checksum(x), x.digest());
            }
        });
        sentence(56, "Returns d.", x -> {
            long atFirst = checksum(x);
            x.knock();
            due("true false", told(x.digest() == checksum(x), x.digest() == atFirst));
        });
        sentence(56, "Computes a checksum.", none -> {
            Monthyears x = mixed();
            long first = x.digest();
            still(x, first, y -> y.digest());
            due(first, mixed().digest());
            x.knock();
            due(false, first == x.digest());
        });
        String[] words = {"LEAF by LEAF ofLeaf() of 0 to 7, count()", "YEAR by YEAR ofYear() of 0 to 4",
            "FEAST by FEAST ofFeast() of 0 to 4", "DAY by DAY ofDay() of 0 to 5, number()"};
        for (int kind = 0; kind < 4; kind++) {
            int of = kind;
            sentence(56, words[kind], none -> {
                for (int place = 0; place < 4; place++) {
                    Monthyears x = mixed();
                    long before = x.digest();
                    changeThing(x, of, place);
                    due(false, before == x.digest());
                    due(checksum(x), x.digest());
                }
            });
        }
    }

    private static void changeThing(Monthyears x, int kind, int place) {
        switch (kind) {
            case LEAF:
                x.leafMonth(place, 7);
                break;
            case YEAR:
                x.year(place, 77);
                break;
            case FEAST:
                x.feast(place, 7, 7);
                break;
            default:
                x.dayAt(place, 0, 17);
                break;
        }
    }
}
