/** The bounds that the document names for debts written alike, hedges and swaps: terms of part 4, promises 13 to 15. */
public final class DebtBoundsTest {
    private static final int[][] NO_BASES = {{1, 0}, {40, 39}, {-1, 0}, {-1, -1}, {0, 41}, {41, 41}, {41, 40}, {0, -1},
        {Integer.MIN_VALUE, 40}, {0, Integer.MAX_VALUE}, {Integer.MIN_VALUE, Integer.MAX_VALUE}, {Integer.MAX_VALUE, Integer.MIN_VALUE}};
    private static final String FIVE = "owner 9;owner 9;owner 9;owner 9;owner 4;";

    public static void main(String[] args) {
        debts();
        basesOfDebts();
        fiveFigures();
        singleFigures();
        basesOfHedges();
        endsOfHedges();
        emptyHedge();
        fullHedge();
        smallestHedge();
        leastHedge();
        othersDoors();
        whatIsSafer();
        withoutSwaps();
        firstAndLastCouple();
        lessIsNotAsMuch();
        notToWhoOwes();
        firstAndLastRing();
        threeUnlikeOwners();
        Check.end();
    }

    /** "ALIKE: a debt of W (1 to 9999)"; promise 13: "IllegalArgumentException: W". */
    private static void debts() {
        GoatDoors x = new GoatDoors();
        Check.due("W 1", 1, () -> x.alike(1, 1));
        Check.due("W 9999", 323, () -> x.alike(9999, 1));
        int[] wrong = {0, -1, -9999, 10000, 10001, Integer.MIN_VALUE, Integer.MAX_VALUE};
        for (int w : wrong) {
            Check.illegal("W " + w, () -> x.alike(w, 1));
            Check.illegal("W " + w + " in all bases", () -> x.alike(w, (1 << 30) - 1));
            Check.illegal("W " + w + " in no bases", () -> x.alike(w, 0));
            Check.illegal("W " + w + " in others", () -> x.alike(w, -1));
        }
    }

    /** "(bits: bit k is base k and 2; k 0 to 29)"; promise 13: "no bases, others than told". */
    private static void basesOfDebts() {
        GoatDoors x = new GoatDoors();
        Check.illegal("no bases", () -> x.alike(5, 0));
        for (int k = 0; k <= 29; k++) {
            int bit = 1 << k;
            Check.due("base " + (k + 2), 1, () -> x.alike(1, bit));
            Check.illegal("and base 32", () -> x.alike(1, bit | 1 << 30));
            Check.illegal("and base 33", () -> x.alike(1, bit | 1 << 31));
        }
        Check.due("all bases", 1, () -> x.alike(1, (1 << 30) - 1));
        Check.due("all bases: #1 each", 9999, () -> x.alike(9999, (1 << 30) - 1));
        Check.illegal("base 32", () -> x.alike(1, 1 << 30));
        Check.illegal("base 33", () -> x.alike(1, 1 << 31));
        Check.illegal("all bits", () -> x.alike(1, -1));
        Check.illegal("all but the sign", () -> x.alike(1, Integer.MAX_VALUE));
    }

    /** "each of a ROW of 1 to 5 FIGURES": in one base a door is worth as much as five of the highest at most. */
    private static void fiveFigures() {
        GoatDoors x = new GoatDoors();
        int[] most = {31, 242, 1023, 3124, 7775};
        for (int k = 0; k < most.length; k++) {
            int bit = 1 << k;
            int door = most[k];
            Check.due("one door in base " + (k + 2), 1, () -> x.alike(door, bit));
            Check.due("one more in base " + (k + 2), 2, () -> x.alike(door + 1, bit));
            if (2 * door < 9999) {
                Check.due("two doors in base " + (k + 2), 2, () -> x.alike(2 * door, bit));
                Check.due("three in base " + (k + 2), 3, () -> x.alike(2 * door + 1, bit));
            }
        }
        for (int k = 5; k <= 29; k++) {
            int bit = 1 << k;
            Check.due("9999 in base " + (k + 2), 1, () -> x.alike(9999, bit));
        }
    }

    /** "FIGURES being less than each of these", "Of more than one base all DOORS have a single FIGURE". */
    private static void singleFigures() {
        GoatDoors x = new GoatDoors();
        for (int k = 0; k < 29; k++) {
            int figure = k + 1;
            int[] others = {1 << k + 1, 1 << 29, (1 << 30) - (2 << k)};
            for (int other : others) {
                int bits = 1 << k | other;
                Check.due("the highest figure", 1, () -> x.alike(figure, bits));
                Check.due("one more", 2, () -> x.alike(figure + 1, bits));
                Check.due("two of the highest", 2, () -> x.alike(2 * figure, bits));
                Check.due("one more than two", 3, () -> x.alike(2 * figure + 1, bits));
                Check.due("9999", (9999 + figure - 1) / figure, () -> x.alike(9999, bits));
            }
        }
        Check.due("30 in base 31 alone and five figures", 1, () -> x.alike(31, 1 << 29));
    }

    /** Promise 14: bases as everywhere; no such owner comes first. */
    private static void basesOfHedges() {
        GoatDoors x = Check.told("owner 1;owner 1;owner 1;door 0 1 #10;door 1 2 #10;");
        for (int[] ab : NO_BASES) {
            for (int i = 0; i < 2; i++) {
                boolean owing = i == 1;
                Check.illegal("hedge over " + ab[0] + " to " + ab[1], () -> x.hedge(0, ab[0], ab[1], owing));
                Check.noSuch("no such owner, first", () -> x.hedge(3, ab[0], ab[1], owing));
                Check.noSuch("no such owner, first", () -> x.hedge(-1, ab[0], ab[1], owing));
            }
        }
        int[] none = {-1, 3, 5, Integer.MIN_VALUE, Integer.MAX_VALUE};
        for (int owner : none) {
            Check.noSuch("owner " + owner, () -> x.hedge(owner, 0, 40, false));
        }
        Check.due("0 to 40", 2, () -> x.hedge(0, 0, 40, false));
    }

    /** "HEDGE of an OWNER over bases a to b": both ends count, and each base between them. */
    private static void endsOfHedges() {
        // #5 is void up to base 5, #8 up to base 8.
        GoatDoors x = Check.told("owner 1;owner 1;owner 1;door 1 0 #5;door 2 1 #5;door 0 1 #8;door 1 2 #8;");
        int[][] owed = {{2, 5, 0}, {5, 6, -1}, {6, 8, 0}, {8, 9, 8}, {7, 9, 8}, {6, 9, 8}, {9, 40, 0}, {8, 40, 8}, {5, 9, -1}};
        int[][] owing = {{2, 5, 0}, {5, 6, 2}, {5, 7, 2}, {5, 8, 2}, {4, 6, 2}, {6, 8, 0}, {8, 9, -1}, {9, 40, 0}, {2, 6, 2}};
        for (int[] o : owed) {
            Check.due("owed over " + o[0] + " to " + o[1], o[2], () -> x.hedge(0, o[0], o[1], false));
        }
        for (int[] o : owing) {
            Check.due("owing over " + o[0] + " to " + o[1], o[2], () -> x.hedge(0, o[0], o[1], true));
        }
        // Nets of 1 are 9 in bases 7 to 9, 0 in 10, and 3 in 6; no others owe.
        GoatDoors y = Check.told("owner 1;owner 1;owner 1;door 2 1 #3;door 2 1 #6;door 1 2 #9;");
        int[][] within = {{7, 9, 0}, {6, 7, -1}, {6, 9, -1}, {9, 10, -1}, {7, 10, -1}, {10, 40, 0}, {2, 10, -1}, {3, 11, -1}};
        for (int[] w : within) {
            Check.due("over " + w[0] + " to " + w[1], w[2], () -> y.hedge(1, w[0], w[1], false));
        }
    }

    /** Promise 14: "(0: his SPAN is 0 already)": over one base, without doors, where doors stand against each other. */
    private static void emptyHedge() {
        GoatDoors x = Check.told("owner 1;owner 1;owner 1;door 0 1 #10;door 1 2 #10;");
        for (int i = 0; i <= 40; i++) {
            int base = i;
            Check.due("over one base", 0, () -> x.hedge(0, base, base, false));
            Check.due("over one base, owing", 0, () -> x.hedge(0, base, base, true));
        }
        Check.due("1 owes what he is owed", 0, () -> x.hedge(1, 0, 40, false));
        Check.due("1 owes what he is owed, owing", 0, () -> x.hedge(1, 0, 40, true));
        GoatDoors none = Check.told("owner 1;");
        Check.due("no doors", 0, () -> none.hedge(0, 0, 40, false));
        Check.due("no doors, owing", 0, () -> none.hedge(0, 0, 40, true));
        GoatDoors others = Check.told("owner 1;owner 1;owner 1;door 1 2 #10;");
        Check.due("none of his", 0, () -> others.hedge(0, 0, 40, false));
    }

    /** All doors but his own, and one fewer: promise 14: "NONE: none". */
    private static void fullHedge() {
        String nine = "owner 1;owner 1;owner 1;" + "door 1 2 #10;".repeat(9);
        GoatDoors owes = Check.told(nine + "door 0 1 #90;");
        Check.due("all nine", 511, () -> owes.hedge(0, 10, 40, false));
        Check.due("owing makes it worse", -1, () -> owes.hedge(0, 10, 40, true));
        Check.due("a door is rubbed", 1, () -> Check.days(owes, "rub 8;"));
        Check.due("eight are too few", -1, () -> owes.hedge(0, 10, 40, false));
        GoatDoors owed = Check.told(nine + "door 1 0 #90;");
        Check.due("all nine, owing", 511, () -> owed.hedge(0, 10, 40, true));
        Check.due("being owed makes it worse", -1, () -> owed.hedge(0, 10, 40, false));
        Check.due("a door is rubbed", 1, () -> Check.days(owed, "rub 0;"));
        Check.due("eight are too few", -1, () -> owed.hedge(0, 10, 40, true));
        GoatDoors last = Check.told("owner 1;owner 1;owner 1;door 0 1 #10;" + "door 1 2 #0;".repeat(8) + "door 2 1 #10;");
        Check.due("the last door", 512, () -> last.hedge(0, 2, 40, false));
    }

    /** "the smallest set", though another is less as bits. */
    private static void smallestHedge() {
        String doors = "owner 1;owner 1;owner 1;door 1 2 #10;door 1 2 #10;door 1 2 #20;";
        GoatDoors x = Check.told(doors + "door 0 1 #20;");
        Check.due("one door", 4, () -> x.hedge(0, 3, 40, false));
        GoatDoors y = Check.told(doors + "door 1 0 #20;");
        Check.due("one door, owing", 4, () -> y.hedge(0, 3, 40, true));
        Check.due("it is rubbed", 1, () -> Check.days(x, "rub 2;"));
        Check.due("two doors", 3, () -> x.hedge(0, 3, 40, false));
    }

    /** "of as small the least as bits". */
    private static void leastHedge() {
        GoatDoors x = Check.told("owner 1;owner 1;owner 1;door 1 2 #5;door 1 2 #10;door 2 1 #10;door 2 1 #10;door 0 1 #10;");
        Check.due("the least of three", 2, () -> x.hedge(0, 6, 40, false));
        Check.due("it is rubbed", 1, () -> Check.days(x, "rub 1;"));
        Check.due("the least of two", 4, () -> x.hedge(0, 6, 40, false));
        Check.due("another debt", 1, () -> Check.days(x, "write 0 1 #10;"));
        Check.due("both", 12, () -> x.hedge(0, 6, 40, false));
        // With #5 its worth is another one, but stays alike: no smaller set does it.
        Check.due("where #5 is void it is none", 12, () -> x.hedge(0, 2, 5, false));
    }

    /** "DOORS that others owe to others": neither those that he owes nor those that he is owed. */
    private static void othersDoors() {
        GoatDoors two = Check.told("owner 1;owner 1;door 0 1 #10;door 1 0 #20;door 1 0 #10;");
        Check.due("of two owners none is others'", -1, () -> two.hedge(0, 3, 40, true));
        Check.due("of two owners none is others'", -1, () -> two.hedge(0, 3, 40, false));
        GoatDoors three = Check.told("owner 1;owner 1;owner 1;door 0 1 #10;door 2 0 #20;door 2 1 #10;");
        Check.due("the one that is", 4, () -> three.hedge(0, 3, 40, true));
        Check.due("owed more already", -1, () -> three.hedge(0, 3, 40, false));
    }

    /** Promise 15: "NoSuchElementException: another what. IllegalArgumentException behind that". */
    private static void whatIsSafer() {
        GoatDoors x = Check.told("owner 9;owner 9;owner 9;door 2 1 #10;door 2 0 #5;door 0 2 #10;");
        int[] none = {-1, -2, 4, 5, Integer.MIN_VALUE, Integer.MAX_VALUE};
        for (int what : none) {
            Check.noSuch("what " + what, () -> x.safer(0, 40, what));
            for (int[] ab : NO_BASES) {
                Check.noSuch("what " + what + ", first", () -> x.safer(ab[0], ab[1], what));
            }
        }
        for (int i = 0; i <= 3; i++) {
            int what = i;
            for (int[] ab : NO_BASES) {
                Check.illegal("safer over " + ab[0] + " to " + ab[1] + ", " + i, () -> x.safer(ab[0], ab[1], what));
            }
        }
    }

    private static void safer(GoatDoors x, int a, int b, int couples, int couple, int rings, int ring) {
        Check.due("couples", couples, () -> x.safer(a, b, 0));
        Check.due("the first couple", couple, () -> x.safer(a, b, 1));
        Check.due("rings", rings, () -> x.safer(a, b, 2));
        Check.due("the first ring", ring, () -> x.safer(a, b, 3));
    }

    /** Promise 15: "NONE: none": without doors, with one, over one base (where no span can be less). */
    private static void withoutSwaps() {
        safer(Check.told("owner 9;owner 9;"), 0, 40, 0, -1, 0, -1);
        safer(Check.told("owner 9;owner 9;door 0 1 #10;"), 0, 40, 0, -1, 0, -1);
        GoatDoors x = Check.told("owner 9;owner 9;owner 9;door 2 1 #10;door 2 0 #5;door 0 2 #10;");
        for (int i = 0; i <= 40; i++) {
            safer(x, i, i, 0, -1, 0, -1);
        }
        Check.due("a door is rubbed", 1, () -> Check.days(x, "rub 0;"));
        safer(x, 6, 9, 0, -1, 0, -1);
    }

    /** "the first (the lesser DOOR, then the greater)": 16 by the lesser and the greater. */
    private static void firstAndLastCouple() {
        // 0 owes #10 and is owed #5, 1 is owed #10: by a swap both stand alike. The span of 2 is 0 already.
        safer(Check.told("owner 9;owner 9;owner 9;door 2 1 #10;door 2 0 #5;door 0 2 #10;"), 6, 9, 1, 1, 0, -1);
        String far = "owner 9;owner 9;owner 9;door 0 2 #10;" + "door 0 2 #0;".repeat(7) + "door 2 1 #10;door 2 0 #5;";
        safer(Check.told(far), 6, 9, 1, 16 * 8 + 9, 0, -1);
        safer(Check.told(far), 6, 7, 1, 16 * 8 + 9, 0, -1);
        GoatDoors two = Check.told("owner 9;owner 9;owner 9;door 0 2 #10;door 2 1 #10;door 2 0 #5;door 2 0 #7;");
        safer(two, 8, 9, 2, 16 + 2, 0, -1);
        GoatDoors ends = Check.told("owner 9;owner 9;owner 9;door 2 1 #10;" + "door 0 2 #0;".repeat(7) + "door 0 2 #10;door 2 0 #5;");
        safer(ends, 6, 9, 1, 9, 0, -1);
    }

    /** "SPANS .. of both .. are less than ahead": as much is not less. */
    private static void lessIsNotAsMuch() {
        safer(Check.told("owner 9;owner 9;owner 9;door 0 2 #10;door 2 1 #10;door 2 0 #10;"), 6, 9, 0, -1, 0, -1);
        String doors = "owner 9;owner 9;owner 9;door 0 2 #20;door 2 1 #20;door 2 0 #5;";
        safer(Check.told(doors), 6, 9, 1, 18, 0, -1);
        // 0 would be safer; 1 has the base more, and then the base less: that is as far.
        safer(Check.told(doors + "door 1 2 #10;"), 6, 9, 0, -1, 0, -1);
        // 0 would be safer; 1 stands alike already.
        safer(Check.told(doors + "door 1 2 #20;"), 6, 9, 0, -1, 0, -1);
        // The same with the lesser door owed to who is as safe as ahead.
        safer(Check.told("owner 9;owner 9;owner 9;door 0 2 #20;door 2 0 #5;door 2 1 #20;door 1 2 #10;"), 6, 9, 0, -1, 0, -1);
    }

    /** "two DOORS are swapped (as in 2; as it may be)": neither is owed then to who owes it. */
    private static void notToWhoOwes() {
        safer(Check.told("owner 9;owner 9;owner 9;door 0 2 #10;door 0 1 #10;door 2 0 #5;"), 6, 9, 0, -1, 0, -1);
        safer(Check.told("owner 9;owner 9;owner 9;door 0 2 #10;door 2 1 #10;door 1 0 #5;"), 6, 9, 0, -1, 0, -1);
        // Owed to the same one, they change nothing.
        safer(Check.told("owner 9;owner 9;owner 9;door 0 1 #10;door 2 1 #5;"), 6, 9, 0, -1, 0, -1);
    }

    /** "RINGS of three: DOORS d, e, f": 256 by d, 16 by e, and f; "each ring once, d its least". */
    private static void firstAndLastRing() {
        String owing = "door 0 4 #10;door 1 4 #100;door 2 4 #1000;";
        String idle = "door 3 4 #0;".repeat(4);
        // What each of 0, 1, 2 owes is what another one is owed.
        String one = "door 3 1 #10;";
        String two = "door 3 0 #1000;";
        String three = "door 3 2 #100;";
        ring(FIVE + one + two + three + owing, 0x012);
        ring(FIVE + one + three + two + owing, 0x021);
        ring(FIVE + two + three + one + owing, 0x012);
        ring(FIVE + three + one + two + owing, 0x012);
        ring(FIVE + owing + idle + one + two + three, 0x789);
        ring(FIVE + owing + idle + one + three + two, 0x798);
        ring(FIVE + one + owing + idle + two + three, 0x089);
        ring(FIVE + one + owing + idle + three + two, 0x098);
    }

    private static void ring(String text, int first) {
        GoatDoors x = Check.told(text);
        Check.due("rings of " + text, 1, () -> x.safer(2, 9, 2));
        Check.due("the first of " + text, first, () -> x.safer(2, 9, 3));
    }

    /** "owed to three unlike OWNERS", "none to who owes it", "all three SPANS are less". */
    private static void threeUnlikeOwners() {
        String owing = "door 0 4 #10;door 1 4 #100;door 2 4 #1000;";
        // As the ring above, but one of the doors is owed by who would get it.
        noRing(FIVE + "door 0 1 #10;door 3 0 #1000;door 3 2 #100;" + owing);
        noRing(FIVE + "door 3 1 #10;door 2 0 #1000;door 3 2 #100;" + owing);
        noRing(FIVE + "door 3 1 #10;door 3 0 #1000;door 1 2 #100;" + owing);
        // As above, but one of the three stands alike already.
        noRing(FIVE + "door 3 1 #10;door 3 0 #1000;door 3 2 #100;" + owing + "door 1 3 #10;door 3 1 #100;");
        // Two of the doors are owed to one.
        noRing(FIVE + "door 3 1 #10;door 3 0 #1000;door 3 0 #100;" + owing);
        // Each door would ease whom the next one is owed to, but two of them are owed to one.
        String three = "owner 9;owner 9;owner 9;";
        noRingOver(7, 9, three + "door 2 0 #10;door 2 1 #20;door 2 1 #30;door 0 2 #60;");
        noRingOver(7, 9, three + "door 2 0 #30;door 2 1 #10;door 2 0 #20;door 1 2 #60;");
        noRingOver(7, 9, three + "door 2 0 #30;door 2 0 #20;door 2 1 #10;door 1 2 #60;");
    }

    private static void noRing(String text) {
        noRingOver(2, 9, text);
    }

    private static void noRingOver(int a, int b, String text) {
        GoatDoors x = Check.told(text);
        Check.due("rings of " + text, 0, () -> x.safer(a, b, 2));
        Check.due("the first of " + text, -1, () -> x.safer(a, b, 3));
    }
}
