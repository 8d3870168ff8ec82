/** Promises 13, 14 and 15: debts written alike, hedges, safer swaps and rings. */
public final class DebtsTest {
    public static void main(String[] args) {
        alike();
        alikeAgainstSearch();
        hedgeBeingOwed();
        hedgeOwing();
        couples();
        rings();
        Check.end();
    }

    private static void alike() {
        GoatDoors x = new GoatDoors();
        Check.due("31 in base 2", 1, () -> x.alike(31, 1));
        Check.due("32 in base 2", 2, () -> x.alike(32, 1));
        Check.due("9999 in base 2", 323, () -> x.alike(9999, 1));
        Check.due("242 in base 3", 1, () -> x.alike(242, 2));
        Check.due("243 in base 3", 2, () -> x.alike(243, 2));
        Check.due("9999 in base 31", 1, () -> x.alike(9999, 1 << 29));
        Check.due("9999 in bases 2 and 31", 9999, () -> x.alike(9999, 1 << 29 | 1));
        Check.due("9999 in bases 30 and 31", 345, () -> x.alike(9999, 3 << 28));
        Check.due("58 in bases 30 and 31", 2, () -> x.alike(58, 3 << 28));
        Check.due("59 in bases 30 and 31", 3, () -> x.alike(59, 3 << 28));
        Check.due("1 in all bases", 1, () -> x.alike(1, (1 << 30) - 1));
        Check.illegal("W 0", () -> x.alike(0, 1));
        Check.illegal("W -5", () -> x.alike(-5, 1));
        Check.illegal("W 10000", () -> x.alike(10000, 1));
        Check.illegal("no bases", () -> x.alike(1, 0));
        Check.illegal("base 32", () -> x.alike(1, 1 << 30));
        Check.illegal("base 32 among others", () -> x.alike(1, 1 << 30 | 1));
        Check.illegal("base 33", () -> x.alike(1, 1 << 31));
        Check.illegal("all bits", () -> x.alike(1, -1));
    }

    /** The fewest rows of figures by looking at them all, over few bases and small debts. */
    private static void alikeAgainstSearch() {
        GoatDoors x = new GoatDoors();
        int[][] bases = {{2}, {3}, {2, 3}, {3, 4}, {3, 5}, {2, 4, 5}};
        for (int[] some : bases) {
            int bits = 0;
            for (int base : some) {
                bits |= 1 << base - 2;
            }
            int asked = bits;
            for (int w = 1; w <= 12; w++) {
                int debt = w;
                Check.due("alike " + w + " in bits " + bits, fewest(w, some), () -> x.alike(debt, asked));
            }
        }
    }

    private static int fewest(int debt, int[] bases) {
        java.util.Set<String> level = new java.util.HashSet<>();
        level.add(java.util.Arrays.toString(new int[bases.length]));
        java.util.Map<String, int[]> sums = new java.util.HashMap<>();
        sums.put(java.util.Arrays.toString(new int[bases.length]), new int[bases.length]);
        int[] goal = new int[bases.length];
        java.util.Arrays.fill(goal, debt);
        String end = java.util.Arrays.toString(goal);
        for (int doors = 1; doors <= debt; doors++) {
            java.util.Set<String> next = new java.util.HashSet<>();
            for (String key : level) {
                for (int row = 0; row < Math.pow(bases[0], 5); row++) {
                    int[] sum = sums.get(key).clone();
                    boolean fits = true;
                    for (int i = 0; i < bases.length; i++) {
                        sum[i] += Integer.parseInt(Integer.toString(row, bases[0]), bases[i]);
                        fits &= sum[i] <= debt;
                    }
                    if (fits) {
                        String name = java.util.Arrays.toString(sum);
                        sums.putIfAbsent(name, sum);
                        next.add(name);
                    }
                }
            }
            if (next.contains(end)) {
                return doors;
            }
            level = next;
        }
        return -1;
    }

    private static void hedgeBeingOwed() {
        GoatDoors x = Check.told("owner 9;owner 9;owner 9;"
                + "door 0 1 #20;door 1 2 #10;door 2 1 #10;door 1 2 #25;door 2 0 #5;door 1 2 #20;");
        Check.due("the smallest set", 8, () -> x.hedge(0, 6, 40, false));
        Check.due("with void bases none", -1, () -> x.hedge(0, 5, 40, false));
        Check.due("with base 0 to 2", -1, () -> x.hedge(0, 0, 2, false));
        Check.due("one base", 0, () -> x.hedge(0, 3, 3, false));
        Check.days(x, "rub 3;");
        Check.due("another one", 32, () -> x.hedge(0, 6, 40, false));
        Check.days(x, "rub 5;");
        Check.due("two", 6, () -> x.hedge(0, 6, 40, false));
        Check.due("owing", -1, () -> x.hedge(0, 6, 40, true));
        Check.days(x, "rub 1;");
        Check.due("none", -1, () -> x.hedge(0, 6, 40, false));
        Check.days(x, "rub 0;");
        Check.due("already", 0, () -> x.hedge(0, 6, 40, false));
        GoatDoors y = Check.told("owner 9;owner 9;owner 9;door 1 2 #10;door 2 1 #10;door 2 1 #10;door 0 1 #10;");
        Check.due("the least as bits", 1, () -> y.hedge(0, 2, 40, false));
        Check.illegal("a above b", () -> y.hedge(0, 3, 2, false));
        Check.illegal("below 0", () -> y.hedge(0, -1, 2, true));
        Check.illegal("above 40", () -> y.hedge(0, 0, 41, true));
        Check.noSuch("no such owner, first", () -> y.hedge(3, 3, 2, true));
        Check.noSuch("owner -1", () -> y.hedge(-1, 2, 3, true));
    }

    private static void hedgeOwing() {
        GoatDoors x = Check.told("owner 9;owner 9;owner 9;"
                + "door 1 0 #20;door 1 2 #10;door 2 1 #10;door 1 2 #25;door 0 2 #5;door 1 2 #20;");
        Check.due("the smallest set", 8, () -> x.hedge(0, 6, 40, true));
        Check.due("being owed", -1, () -> x.hedge(0, 6, 40, false));
        Check.days(x, "rub 3;rub 5;");
        Check.due("two", 6, () -> x.hedge(0, 6, 40, true));
        Check.due("his own are no others'", -1, () -> x.hedge(1, 6, 40, true));
    }

    private static void couples() {
        // 0 owes #10 and is owed #5, 1 is owed #10: by a swap both stand alike.
        GoatDoors x = Check.told("owner 9;owner 9;owner 9;door 0 2 #10;door 2 1 #10;door 2 0 #5;");
        Check.due("couples", 1, () -> x.safer(6, 9, 0));
        Check.due("the first", 16 + 2, () -> x.safer(6, 9, 1));
        Check.due("over one base none", 0, () -> x.safer(6, 6, 0));
        Check.due("over one base none", -1, () -> x.safer(6, 6, 1));
        Check.days(x, "swap 1 2;");
        Check.due("no more", 0, () -> x.safer(6, 9, 0));
        GoatDoors y = Check.told("owner 9;owner 9;owner 9;door 0 2 #10;door 2 1 #10;door 2 0 #10;");
        Check.due("spans as they were", 0, () -> y.safer(6, 9, 0));
        GoatDoors low = Check.told("owner 9;owner 9;owner 9;door 2 1 #10;door 2 0 #5;door 0 2 #10;");
        Check.due("doors 0 and 1", 1, () -> low.safer(6, 9, 1));
        Check.due("one of them", 1, () -> low.safer(6, 9, 0));
        // 0 would be safer by door 1, but owes it himself.
        GoatDoors own = Check.told("owner 9;owner 9;owner 9;door 0 2 #10;door 0 1 #10;door 2 0 #5;");
        Check.due("not to who owes it", 0, () -> own.safer(6, 9, 0));
        Check.noSuch("what 4", () -> x.safer(0, 40, 4));
        Check.noSuch("what -1, first", () -> x.safer(3, 2, -1));
        Check.illegal("a above b", () -> x.safer(3, 2, 0));
        Check.illegal("below 0", () -> x.safer(-1, 2, 1));
        Check.illegal("above 40", () -> x.safer(0, 41, 2));
        Check.illegal("above 40", () -> x.safer(41, 41, 3));
    }

    private static void rings() {
        // What each of 0, 1, 2 owes is what the next one is owed.
        GoatDoors x = Check.told("owner 9;owner 9;owner 9;owner 9;owner 4;"
                + "door 0 4 #10;door 1 4 #100;door 2 4 #1000;door 3 1 #10;door 3 2 #100;door 3 0 #1000;");
        Check.due("rings", 1, () -> x.safer(2, 9, 2));
        Check.due("the first", 256 * 3 + 16 * 5 + 4, () -> x.safer(2, 9, 3));
        // The same with lower doors, going round the other way.
        GoatDoors y = Check.told("owner 9;owner 9;owner 9;owner 9;owner 4;"
                + "door 3 1 #10;door 3 0 #1000;door 3 2 #100;door 0 4 #10;door 1 4 #100;door 2 4 #1000;");
        Check.due("rings", 1, () -> y.safer(2, 9, 2));
        Check.due("the first", 16 + 2, () -> y.safer(2, 9, 3));
        Check.days(x, "swap 3 5;swap 5 4;");
        Check.due("no more", 0, () -> x.safer(2, 9, 2));
        Check.due("no more", -1, () -> x.safer(2, 9, 3));
    }
}
