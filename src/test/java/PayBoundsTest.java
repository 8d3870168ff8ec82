/** The bounds that the document names for voiding, paying, trade, tax and sums: terms of part 5, promises 19 to 24. */
public final class PayBoundsTest {
    private static final int[] FAR = {Integer.MIN_VALUE, Integer.MIN_VALUE + 1, -1000, 1000, Integer.MAX_VALUE - 1, Integer.MAX_VALUE};
    private static final int[][] NO_TENTHS = {{-1, 0}, {0, -1}, {-1, -1}, {11, 0}, {0, 11}, {11, 11}, {10, 1}, {1, 10}, {6, 5}, {5, 6},
        {10, 10}, {11, -1}, {-1, 11}, {-5, 10}, {Integer.MAX_VALUE, 1}, {1, Integer.MAX_VALUE}, {Integer.MAX_VALUE, Integer.MAX_VALUE},
        {Integer.MIN_VALUE, 0}, {0, Integer.MIN_VALUE}, {Integer.MIN_VALUE, Integer.MIN_VALUE}, {Integer.MIN_VALUE, Integer.MAX_VALUE}};

    public static void main(String[] args) {
        voidsDownToTwo();
        voidsByLaw();
        whoCould();
        voidsOfZeros();
        whatOfVoids();
        days();
        tenths();
        neverFewerThanNone();
        highestBases();
        cutDown();
        dayToPay();
        doorsToPay();
        tradeFromEndToEnd();
        tradeOfLikeOnes();
        whatOfTrade();
        taxes();
        sumsInLowBases();
        sumsInHighBases();
        figuresOfSums();
        figuresThatAreNone();
        Check.end();
    }

    /** A village of so many goats, with one door. */
    private static GoatDoors of(int goats, String row, String more) {
        return Check.told("owner " + Math.min(20, goats) + ";owner " + Math.max(0, goats - 20) + ";door 0 1 #" + row + ";" + more);
    }

    /** "TO VOID a DOOR (.. THE BASE 2 or more): the fewest GOATS less (1 or more) by which it is worth 0 in a base of 2 or more". */
    private static void voidsDownToTwo() {
        for (int i = 0; i <= 40; i++) {
            int base = i;
            GoatDoors one = of(base, "1", "");
            Check.due("#1 in base " + i, -1, () -> one.voids(0, 0));
            Check.due("who could", -1, () -> one.voids(0, 1));
            GoatDoors two = of(base, "2", "");
            Check.due("#2 in base " + i, base > 2 ? base - 2 : -1, () -> two.voids(0, 0));
            GoatDoors high = of(base, "z", "");
            Check.due("#z in base " + i, base > 36 ? base - 35 : base > 2 ? 1 : -1, () -> high.voids(0, 0));
        }
        GoatDoors x = of(12, "8", "");
        Check.due("the first base in which it is void", 4, () -> x.voids(0, 0));
        Check.due("goats are eaten, but not counted", 1, () -> Check.days(x, "eaten 0 9;"));
        Check.due("the base is as it was", 4, () -> x.voids(0, 0));
        Check.due("they are counted", 1, () -> Check.days(x, "census;"));
        Check.due("void already, but 1 or more", 1, () -> x.voids(0, 0));
        Check.due("one more is eaten", 2, () -> Check.days(x, "eaten 0 1;census;"));
        Check.due("a base of 2", -1, () -> x.voids(0, 0));
    }

    /** Promise 19: "NONE of both: the LAW is another". */
    private static void voidsByLaw() {
        for (String law : new String[] {"law due;", "law greatest;"}) {
            for (String row : new String[] {"2", "z", "0", "00000"}) {
                GoatDoors x = of(12, row, law);
                Check.due(law + row, -1, () -> x.voids(0, 0));
                Check.due(law + row + ", who could", -1, () -> x.voids(0, 1));
            }
        }
        GoatDoors told = of(12, "8", "law void;");
        Check.due("void as told", 4, () -> told.voids(0, 0));
    }

    /** "who could: OWNERS (bits) who have so many GOATS". */
    private static void whoCould() {
        GoatDoors x = Check.told("owner 4;owner 3;owner 5;owner 0;owner 4;door 0 1 #c;");
        Check.due("so many", 4, () -> x.voids(0, 0));
        Check.due("four and five, not three", 1 | 4 | 16, () -> x.voids(0, 1));
        Check.due("one is eaten", 1, () -> Check.days(x, "eaten 0 1;"));
        Check.due("then not 0", 4 | 16, () -> x.voids(0, 1));
        Check.due("goats that are lent are his", 1, () -> Check.days(x, "lent 2 0 5;"));
        Check.due("so", 4 | 16, () -> x.voids(0, 1));
        GoatDoors none = of(40, "2", "");
        Check.due("38 goats", 38, () -> none.voids(0, 0));
        Check.due("nobody has so many", 0, () -> none.voids(0, 1));
        GoatDoors all = of(20, "2", "");
        Check.due("one has them all", 2, () -> Check.days(all, "born 0 20;census;"));
        Check.due("38 goats", 38, () -> all.voids(0, 0));
        Check.due("he could", 1, () -> all.voids(0, 1));
        Check.due("a village anew, of two", 0, () -> Check.village(x, "owner 9;owner 9;door 0 1 #h;"));
        Check.due("one goat", 1, () -> x.voids(0, 0));
        Check.due("nobody of the former one", 3, () -> x.voids(0, 1));
        GoatDoors five = Check.told("owner 8;".repeat(5) + "door 0 1 #z;");
        Check.due("five goats", 5, () -> five.voids(0, 0));
        Check.due("each one could", 31, () -> five.voids(0, 1));
    }

    /** A row of 0s is worth 0 in each base but 1: a goat less does it, in a base of 2 or more. */
    private static void voidsOfZeros() {
        Check.due("#0 in base 3", 1, () -> of(3, "0", "").voids(0, 0));
        Check.due("#0 in base 2", -1, () -> of(2, "0", "").voids(0, 0));
        Check.due("#0 in base 1", -1, () -> of(1, "0", "").voids(0, 0));
        Check.due("#0 in base 0", -1, () -> of(0, "0", "").voids(0, 0));
        Check.due("#00000 in base 40", 1, () -> of(40, "00000", "").voids(0, 0));
    }

    /** Promise 19: "NoSuchElementException: also another what", whether it can be or not. */
    private static void whatOfVoids() {
        GoatDoors[] some = {of(12, "8", ""), of(12, "1", ""), of(12, "8", "law due;"), of(1, "8", "")};
        for (GoatDoors x : some) {
            for (int what : new int[] {-1, 2, 3, Integer.MIN_VALUE, Integer.MAX_VALUE}) {
                Check.noSuch("what " + what, () -> x.voids(0, what));
            }
            for (int door : new int[] {-1, 1, 9, 10, 32, Integer.MIN_VALUE, Integer.MAX_VALUE}) {
                Check.noSuch("door " + door, () -> x.voids(door, 0));
                Check.noSuch("door " + door, () -> x.voids(door, 1));
            }
        }
    }

    /** "on day n (0 to 8)"; promise 20: "IllegalArgumentException (behind NoSuchElementException): day". */
    private static void days() {
        GoatDoors x = of(12, "10", "");
        for (int i = 0; i <= 8; i++) {
            int day = i;
            Check.due("always up, day " + i, 12 + day, () -> x.mean(0, day, 10, 0));
            Check.due("always down, day " + i, 12 - day, () -> x.mean(0, day, 0, 10));
            Check.due("as many, day " + i, 12, () -> x.mean(0, day, 0, 0));
            Check.due("up or down, day " + i, 12, () -> x.mean(0, day, 5, 5));
        }
        for (int day : new int[] {-1, 9, Integer.MIN_VALUE, Integer.MAX_VALUE}) {
            Check.illegal("day " + day, () -> x.mean(0, day, 5, 5));
            Check.noSuch("no such door, first", () -> x.mean(1, day, 5, 5));
            Check.noSuch("no such door, first", () -> x.mean(-1, day, 11, 11));
        }
    }

    /** "UP tenths, .. DOWN tenths (0 to 10, both 10 at most)"; promises 20 and 21: "UP, DOWN are not as told (as everywhere)". */
    private static void tenths() {
        GoatDoors x = of(12, "100", "");
        for (int i = 0; i <= 10; i++) {
            int up = i;
            int down = 10 - i;
            Check.due("both 10", (up * 169 + down * 121) / 10, () -> x.mean(0, 1, up, down));
            Check.due("up alone", (up * 169 + (10 - up) * 144) / 10, () -> x.mean(0, 1, up, 0));
            Check.due("down alone", (down * 121 + (10 - down) * 144) / 10, () -> x.mean(0, 1, 0, down));
            Check.illegal("both 11", () -> x.mean(0, 1, up + 1, down));
            Check.illegal("both 11", () -> x.mean(0, 1, up, down + 1));
            Check.illegal("both 11, to pay", () -> x.pay(0, up + 1, down));
            Check.illegal("both 11, to pay", () -> x.pay(0, up, down + 1));
        }
        for (int[] t : NO_TENTHS) {
            for (int i = 0; i <= 8; i += 8) {
                int day = i;
                Check.illegal("mean with " + t[0] + " and " + t[1], () -> x.mean(0, day, t[0], t[1]));
                Check.noSuch("no such door, first", () -> x.mean(9, day, t[0], t[1]));
            }
            Check.illegal("pay with " + t[0] + " and " + t[1], () -> x.pay(0, t[0], t[1]));
            Check.noSuch("no such door, first", () -> x.pay(9, t[0], t[1]));
        }
    }

    /** "else as many (never fewer than 0)". */
    private static void neverFewerThanNone() {
        GoatDoors none = of(0, "11111", "");
        for (int i = 0; i <= 8; i++) {
            int day = i;
            Check.due("always down, day " + i, 0, () -> none.mean(0, day, 0, 10));
        }
        Check.due("day 1: base 1 or still 0", 2, () -> none.mean(0, 1, 5, 5));
        Check.due("day 1, always up: base 1", 5, () -> none.mean(0, 1, 10, 0));
        Check.due("day 2, always up: base 2", 31, () -> none.mean(0, 2, 10, 0));
        // Base 2 with 25 hundredths, base 1 with 25 (down from 0 is staying), base 0 with 50.
        Check.due("day 2, up or down", (25 * 31 + 25 * 5) / 100, () -> none.mean(0, 2, 5, 5));
        GoatDoors one = of(1, "11111", "");
        Check.due("day 1, always down", 0, () -> one.mean(0, 1, 0, 10));
        Check.due("day 8, always down", 0, () -> one.mean(0, 8, 0, 10));
        Check.due("day 1, down or as many", 4, () -> one.mean(0, 1, 0, 1));
        GoatDoors eight = of(8, "11111", "");
        Check.due("day 7, always down: base 1", 5, () -> eight.mean(0, 7, 0, 10));
        Check.due("day 8, always down: base 0", 0, () -> eight.mean(0, 8, 0, 10));
    }

    /** Goats may be more than 40 on a day: no bound is told there. */
    private static void highestBases() {
        GoatDoors x = of(40, "zzzzz", "");
        for (int i = 0; i <= 8; i++) {
            int day = i;
            long b = 40 + day;
            long worth = 35 * (b * b * b * b + b * b * b + b * b + b + 1);
            Check.due("always up, day " + i, worth, () -> x.mean(0, day, 10, 0));
        }
        Check.due("base 48", 189747635L, () -> x.mean(0, 8, 10, 0));
    }

    /** "by 10 to the power of n, cut down". */
    private static void cutDown() {
        GoatDoors x = of(12, "10", "");
        for (int i = 0; i <= 10; i++) {
            int tenths = i;
            Check.due("up " + i, tenths == 10 ? 13 : 12, () -> x.mean(0, 1, tenths, 0));
            Check.due("down " + i, tenths == 0 ? 12 : 11, () -> x.mean(0, 1, 0, tenths));
        }
        Check.due("8 days down a tenth", 11, () -> x.mean(0, 8, 0, 1));
        Check.due("8 days up a tenth", 12, () -> x.mean(0, 8, 1, 0));
        GoatDoors none = of(0, "0", "");
        Check.due("below 1 of 10 to the power of 8", 0, () -> none.mean(0, 8, 1, 9));
    }

    private static void pays(int goats, String row, int up, int down, int day) {
        GoatDoors x = of(goats, row, "");
        Check.due("#" + row + " in " + goats + " goats, " + up + " up and " + down + " down", day, () -> x.pay(0, up, down));
    }

    /** "THE DAY of 0 to 8 on which it is least, of like ones the first". */
    private static void dayToPay() {
        for (int goats = 0; goats <= 40; goats++) {
            pays(goats, "10", 0, 0, 0);
            // In base 1 it is worth 1, else nothing.
            pays(goats, "0", 5, 5, goats == 1 ? 1 : 0);
            pays(goats, "zzzzz", 0, 0, 0);
            // In base 1 it is worth 2, as in base 2; in base 0 nothing.
            int down = goats <= 8 ? goats : goats == 9 ? 7 : 8;
            pays(goats, "10", 0, 10, down);
            // In base 0 it is worth nothing, in base 1 as much as in base 2, from there on ever more.
            pays(goats, "10", 10, 0, 0);
        }
        pays(36, "z", 0, 10, 1);
        pays(36, "z", 10, 0, 0);
        pays(35, "z", 10, 0, 0);
        pays(39, "z", 0, 10, 4);
        pays(40, "x", 0, 10, 7);
        pays(40, "w", 0, 10, 8);
        pays(40, "v", 0, 10, 0);
        // The mean is 34 on the first day of a tenth, and ever less by whole ones.
        pays(36, "z", 0, 1, 8);
        pays(1, "100", 10, 0, 0);
        pays(1, "000", 10, 0, 1);
        pays(1, "000", 5, 5, 1);
    }

    /** Promise 21: no such door. */
    private static void doorsToPay() {
        GoatDoors x = of(12, "10", "");
        for (int door : new int[] {-1, 1, 9, 10, 32, Integer.MIN_VALUE, Integer.MAX_VALUE}) {
            Check.noSuch("pay " + door, () -> x.pay(door, 0, 0));
            Check.noSuch("mean " + door, () -> x.mean(door, 0, 0, 0));
            Check.noSuch("tax " + door, () -> x.tax(door));
        }
    }

    private static void trade(GoatDoors x, int c, int base, int misread) {
        Check.due("trade with " + c, base, () -> x.trade(c, 0));
        Check.due("misread with " + c, misread, () -> x.trade(c, 1));
    }

    /** "the other one's base c (0 to 40)", "THE TRADE's base: of 0 to 40 that of least MISREAD". */
    private static void tradeFromEndToEnd() {
        GoatDoors high = of(40, "10", "");
        trade(high, 40, 40, 0);
        trade(high, 39, 39, 1);
        trade(high, 38, 39, 1);
        trade(high, 0, 20, 20);
        trade(high, 1, 21, 19);
        trade(high, 2, 21, 19);
        GoatDoors none = of(0, "10", "");
        trade(none, 0, 0, 0);
        trade(none, 1, 0, 2);
        trade(none, 40, 20, 20);
        GoatDoors one = of(1, "10", "");
        trade(one, 1, 1, 0);
        trade(one, 2, 1, 0);
        trade(one, 0, 0, 2);
        GoatDoors two = Check.told("owner 20;owner 20;door 0 1 #10;door 1 0 #100;");
        // The greatest of all counts: 1600 and 0 are both 800 from 800; 28 squared is 784, 29 squared 841.
        trade(two, 0, 28, 816);
        GoatDoors doorless = Check.told("owner 20;owner 20;");
        trade(doorless, 0, 0, 0);
        trade(doorless, 40, 0, 0);
        GoatDoors full = Check.told("owner 20;owner 20;" + "door 0 1 #0;".repeat(9) + "door 0 1 #10;");
        trade(full, 40, 40, 0);
        trade(full, 0, 20, 20);
    }

    /** "of like ones the least". */
    private static void tradeOfLikeOnes() {
        GoatDoors x = of(40, "5", "");
        trade(x, 40, 6, 0);
        trade(x, 6, 6, 0);
        trade(x, 5, 1, 4);
        trade(x, 0, 1, 4);
        GoatDoors due = of(40, "5", "law due;");
        trade(due, 40, 5, 0);
        trade(due, 0, 2, 3);
        GoatDoors greatest = of(40, "5", "law greatest;");
        trade(greatest, 40, 6, 0);
        trade(greatest, 0, 3, 3);
    }

    /** Promise 22: "NoSuchElementException: another what. IllegalArgumentException (behind that): c". */
    private static void whatOfTrade() {
        GoatDoors x = of(12, "10", "");
        for (int c : new int[] {-1, 41, Integer.MIN_VALUE, Integer.MAX_VALUE}) {
            Check.illegal("c " + c, () -> x.trade(c, 0));
            Check.illegal("c " + c, () -> x.trade(c, 1));
            for (int what : new int[] {-1, 2, Integer.MIN_VALUE, Integer.MAX_VALUE}) {
                Check.noSuch("what " + what + ", first", () -> x.trade(c, what));
                Check.noSuch("what " + what, () -> x.trade(0, what));
                Check.noSuch("what " + what, () -> x.trade(40, what));
            }
        }
    }

    /** "A TAX by ten: WORTH of a DOOR in base 10, by 10, cut up". */
    private static void taxes() {
        String[] rows = {"0", "1", "9", "10", "11", "19", "20", "21", "99", "100", "101", "00000", "00001", "99990", "99991", "99999"};
        int[] want = {0, 1, 1, 1, 2, 2, 2, 3, 10, 10, 11, 0, 1, 9999, 10000, 10000};
        for (int i = 0; i < rows.length; i++) {
            String row = rows[i];
            int due = want[i];
            for (int goats = 0; goats <= 40; goats += 20) {
                int many = goats;
                Check.due("tax of #" + row, due, () -> of(many, row, "").tax(0));
            }
        }
        int[] high = {0, 1, 1};
        int[] highest = {0, 10000, 10000};
        String[] laws = {"", "law due;", "law greatest;"};
        for (int i = 0; i < 3; i++) {
            String law = laws[i];
            Check.due("tax of #a, " + law, high[i], () -> of(12, "a", law).tax(0));
            Check.due("tax of #9, " + law, 1, () -> of(12, "9", law).tax(0));
            Check.due("tax of #zzzzz, " + law, highest[i], () -> of(12, "zzzzz", law).tax(0));
        }
        GoatDoors x = of(12, "1", "");
        for (int far : FAR) {
            Check.noSuch("door " + far, () -> x.tax(far));
        }
    }

    private static void sum(GoatDoors x, int a, int b, int carries, int... figures) {
        String what = "sum " + a + ", " + b;
        Check.due(what, figures.length, () -> x.sum(a, b, -1));
        Check.due(what + " carries", carries, () -> x.sum(a, b, -2));
        for (int i = 0; i < figures.length; i++) {
            int at = i;
            Check.due(what + " figure " + i, figures[i], () -> x.sum(a, b, at));
        }
        Check.noSuch(what + " behind the last", () -> x.sum(a, b, figures.length));
        Check.noSuch(what + " -3", () -> x.sum(a, b, -3));
        for (int far : FAR) {
            Check.noSuch(what + " " + far, () -> x.sum(a, b, far));
        }
    }

    /** Promise 24: "IllegalArgumentException (behind no such DOOR, ahead of no such FIGURE): THE BASE is below 2". */
    private static void sumsInLowBases() {
        for (int goats = 0; goats <= 1; goats++) {
            GoatDoors x = of(goats, "1", "");
            for (int i : new int[] {-3, -2, -1, 0, 1, 99, Integer.MIN_VALUE, Integer.MAX_VALUE}) {
                Check.illegal("figure " + i + " in base " + goats, () -> x.sum(0, 0, i));
                Check.noSuch("no such second door, first", () -> x.sum(0, 1, i));
                Check.noSuch("no such first door, first", () -> x.sum(1, 0, i));
                Check.noSuch("neither, first", () -> x.sum(-1, 10, i));
            }
        }
        sum(of(2, "1", ""), 0, 0, 1, 1, 0);
        GoatDoors x = of(2, "1", "");
        for (int door : new int[] {-1, 1, 9, 10, 32, Integer.MIN_VALUE, Integer.MAX_VALUE}) {
            Check.noSuch("no such first door", () -> x.sum(door, 0, -1));
            Check.noSuch("no such second door", () -> x.sum(0, door, -1));
            Check.noSuch("no such doors", () -> x.sum(door, door, 99));
        }
        Check.due("a census of one", 2, () -> Check.days(x, "eaten 0 1;census;"));
        Check.illegal("base 1", () -> x.sum(0, 0, -1));
    }

    /** The longest sums: five figures and one carried, in bases up to 40. */
    private static void sumsInHighBases() {
        sum(of(40, "zzzzz", ""), 0, 0, 5, 1, 31, 31, 31, 31, 30);
        sum(of(36, "zzzzz", ""), 0, 0, 5, 1, 35, 35, 35, 35, 34);
        sum(of(40, "k0000", ""), 0, 0, 1, 1, 0, 0, 0, 0, 0);
        sum(of(40, "j0000", ""), 0, 0, 0, 38, 0, 0, 0, 0);
        sum(of(40, "z", ""), 0, 0, 1, 1, 30);
        GoatDoors x = Check.told("owner 10;owner 0;door 0 1 #99999;door 0 1 #1;door 0 1 #0;door 0 1 #00001;");
        sum(x, 0, 1, 5, 1, 0, 0, 0, 0, 0);
        sum(x, 1, 0, 5, 1, 0, 0, 0, 0, 0);
        sum(x, 0, 3, 5, 1, 0, 0, 0, 0, 0);
        sum(x, 0, 2, 0, 9, 9, 9, 9, 9);
        sum(x, 1, 3, 0, 2);
    }

    /** "its FIGURES (without 0s ahead, but one)". */
    private static void figuresOfSums() {
        GoatDoors x = Check.told("owner 10;owner 0;door 0 1 #0;door 0 1 #00000;door 0 1 #00100;door 0 1 #900;");
        sum(x, 0, 0, 0, 0);
        sum(x, 0, 1, 0, 0);
        sum(x, 1, 1, 0, 0);
        sum(x, 1, 2, 0, 1, 0, 0);
        sum(x, 2, 3, 1, 1, 0, 0, 0);
    }

    /** "FIGURES that are not below THE BASE are read as it less 1", by each law. */
    private static void figuresThatAreNone() {
        for (String law : new String[] {"", "law due;", "law greatest;"}) {
            GoatDoors x = Check.told("owner 10;owner 0;door 0 1 #9;door 0 1 #a;door 0 1 #z;door 0 1 #1;door 0 1 #0;" + law);
            sum(x, 0, 4, 0, 9);
            sum(x, 1, 4, 0, 9);
            sum(x, 2, 4, 0, 9);
            sum(x, 0, 3, 1, 1, 0);
            sum(x, 1, 3, 1, 1, 0);
            sum(x, 2, 2, 1, 1, 8);
            GoatDoors two = Check.told("owner 2;owner 0;door 0 1 #zzzzz;door 0 1 #2;door 0 1 #0;" + law);
            sum(two, 0, 0, 5, 1, 1, 1, 1, 1, 0);
            sum(two, 0, 1, 5, 1, 0, 0, 0, 0, 0);
            sum(two, 0, 2, 0, 1, 1, 1, 1, 1);
            sum(two, 1, 2, 0, 1);
        }
    }
}
