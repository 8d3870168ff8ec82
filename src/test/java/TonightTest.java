/** Promises 7, 9, 10, 11 and 12: worths by each law, nets, kids, best counts, spans, the game. */
public final class TonightTest {
    public static void main(String[] args) {
        worths();
        tonight();
        bests();
        spans();
        game();
        gameWithoutRest();
        firstOfTwoRows();
        gameOfFive();
        Check.end();
    }

    private static void worths() {
        String doors = "owner 9;owner 9;door 0 1 #2a;door 0 1 #zzzzz;door 0 1 #00000;door 1 0 #7;";
        long[][] want = {
            // base, void of doors 0 to 3, due, greatest
            {0, 0, 0, 0, 0, 0, 0, 0, 0, 0, 0, 0, 0},
            {1, 2, 5, 5, 1, 2, 5, 5, 1, 2, 5, 5, 1},
            {2, 0, 0, 0, 0, 4, 32, 0, 2, 3, 31, 0, 1},
            {3, 0, 0, 0, 0, 9, 243, 0, 3, 8, 242, 0, 2},
            {7, 0, 0, 0, 0, 49, 16807, 0, 7, 20, 16806, 0, 6},
            {8, 0, 0, 0, 7, 64, 32768, 0, 7, 23, 32767, 0, 7},
            {10, 0, 0, 0, 7, 100, 100000, 0, 7, 29, 99999, 0, 7},
            {11, 32, 0, 0, 7, 32, 161051, 0, 7, 32, 161050, 0, 7},
            {35, 80, 0, 0, 7, 80, 52521875, 0, 7, 80, 52521874, 0, 7},
            {36, 82, 60466175, 0, 7, 82, 60466175, 0, 7, 82, 60466175, 0, 7},
            {40, 90, 91897435, 0, 7, 90, 91897435, 0, 7, 90, 91897435, 0, 7},
        };
        String[] laws = {"", "law due;", "law greatest;"};
        for (int law = 0; law < 3; law++) {
            GoatDoors x = Check.told(doors + laws[law]);
            for (long[] row : want) {
                for (int door = 0; door < 4; door++) {
                    int d = door;
                    Check.due("law " + law + " worth " + d + " in " + row[0], row[1 + 4 * law + d],
                            () -> x.worth(d, (int) row[0]));
                }
            }
        }
        GoatDoors x = Check.told(doors);
        Check.illegal("base 41", () -> x.worth(0, 41));
        Check.illegal("base -1", () -> x.worth(0, -1));
        Check.noSuch("no such door, first", () -> x.worth(4, 41));
        Check.noSuch("no such door", () -> x.worth(-1, 4));
    }

    private static void tonight() {
        GoatDoors x = Check.told("owner 20;owner 20;owner 0;door 0 1 #zz;door 0 2 #10;door 1 0 #111;");
        Check.due("owes", 35 * 41 + 40, () -> x.owner(0, 5));
        Check.due("is owed", 1641, () -> x.owner(0, 6));
        Check.due("net", 1641 - 1435 - 40, () -> x.owner(0, 7));
        Check.due("a kid at base 40", 82 - 35 - 1, () -> x.owner(0, 8));
        Check.due("net of 2", 40, () -> x.owner(2, 7));
        Check.due("kid of 2", 1, () -> x.owner(2, 8));
        Check.noSuch("what 9", () -> x.owner(0, 9));
        Check.noSuch("what -1", () -> x.owner(0, -1));
        Check.noSuch("owner 3", () -> x.owner(3, 7));
        Check.days(x, "rub 0;rub 1;rub 2;eaten 0 20;eaten 1 20;census;write 0 1 #zzzzz;");
        Check.due("base", 0, () -> x.count(3));
        Check.due("owes in base 0", 0, () -> x.owner(0, 5));
        Check.due("kid from base 0", 5, () -> x.owner(1, 8));
        Check.due("kid from base 0", -5, () -> x.owner(0, 8));
        GoatDoors y = Check.told("owner 20;owner 20;" + "door 0 1 #zzzzz;".repeat(10));
        Check.due("most", 918974350, () -> y.owner(1, 6));
        Check.due("least", -918974350, () -> y.owner(0, 7));
        Check.due("kid", 10 * (35 * (2825761 + 68921 + 1681 + 41 + 1)) - 918974350, () -> y.owner(1, 8));
    }

    private static final String HILL = "owner 3;owner 3;owner 3;door 0 1 #100;door 1 0 #e0;door 1 0 #e0;door 2 1 #5;";

    private static void bests() {
        GoatDoors x = Check.told(HILL);
        Check.due("best of 0", 15, () -> x.best(0, 0));
        Check.due("net in it", 2 * 14 * 15 - 15 * 15, () -> x.best(0, 1));
        Check.due("best of 1", 40, () -> x.best(1, 0));
        Check.due("net in it", 1600 + 5 - 2 * 14 * 40, () -> x.best(1, 1));
        Check.due("base 0 counts too", 0, () -> x.best(2, 0));
        Check.due("net in it", 0, () -> x.best(2, 1));
        Check.noSuch("what 2", () -> x.best(0, 2));
        Check.noSuch("what -1", () -> x.best(0, -1));
        Check.noSuch("owner 3", () -> x.best(3, 0));
        Check.noSuch("owner -1", () -> x.best(-1, 0));
        GoatDoors y = Check.told("owner 3;owner 3;door 0 1 #5;");
        Check.due("the least of like ones", 6, () -> y.best(1, 0));
        GoatDoors z = Check.told("owner 3;owner 3;door 0 1 #5;law greatest;");
        Check.due("by greatest", 6, () -> z.best(1, 0));
        GoatDoors v = Check.told("owner 3;owner 3;door 0 1 #z;law due;");
        Check.due("by due", 35, () -> v.best(1, 0));
        Check.due("by due", 35, () -> v.best(1, 1));
    }

    private static void spans() {
        GoatDoors x = Check.told(HILL);
        Check.due("span", 0, () -> x.span(0, 7, 7));
        Check.due("span of 0 from 2 to 14", 196 - 4, () -> x.span(0, 2, 14));
        Check.due("span of 0 from 14 to 16", 196 + 195, () -> x.span(0, 14, 16));
        Check.due("span of 2 from 0 to 40", 5, () -> x.span(2, 0, 40));
        Check.due("span of 2 from 6 to 40", 0, () -> x.span(2, 6, 40));
        Check.illegal("a above b", () -> x.span(0, 3, 2));
        Check.illegal("a below 0", () -> x.span(0, -1, 2));
        Check.illegal("b above 40", () -> x.span(0, 3, 41));
        Check.illegal("far off", () -> x.span(0, Integer.MIN_VALUE, Integer.MAX_VALUE));
        Check.noSuch("no such owner, first", () -> x.span(3, 3, 2));
        Check.noSuch("no such owner", () -> x.span(-1, 2, 3));
        GoatDoors y = Check.told("owner 20;owner 20;" + "door 0 1 #zzzzz;".repeat(10));
        Check.due("the widest", 918974350, () -> y.span(0, 0, 40));
    }

    private static void game() {
        GoatDoors x = Check.told("owner 4 hides 3;owner 2 hides 5;owner 0 hides 4;door 0 1 #10;");
        Check.due("rests", 1, () -> x.rests(-1));
        Check.due("he who owes hides all", 3, () -> x.rests(0));
        Check.due("he who is owed hides none", 0, () -> x.rests(1));
        Check.due("he who has none", 0, () -> x.rests(2));
        Check.noSuch("owner 3", () -> x.rests(3));
        Check.noSuch("owner -2", () -> x.rests(-2));
        Check.days(x, "lent 0 1 3;lent 1 0 1;hidden 1 1;");
        Check.due("what is lent counts for nothing", 3, () -> x.rests(0));
        GoatDoors y = Check.told("owner 4 hides 3;owner 2 hides 5;owner 0 hides 4;door 1 0 #10;");
        Check.due("no more than he has", 2, () -> y.rests(1));
        GoatDoors z = Check.told("owner 9 hides 1;owner 9 hides 2;owner 4 hides 1;");
        Check.due("without doors all rest", 12, () -> z.rests(-1));
        Check.due("the first", 0, () -> z.rests(1));
    }

    private static void gameWithoutRest() {
        GoatDoors x = Check.told("owner 2 hides 1;owner 2 hides 1;door 0 1 #11;door 1 0 #3;");
        // Nets of 0 in bases 4, 3, 2 are -2, -4, -3: whatever they hide, one of both would have it otherwise.
        Check.due("none rests", 0, () -> x.rests(-1));
        Check.noSuch("what one hides in the first", () -> x.rests(0));
        Check.noSuch("owner 2", () -> x.rests(2));
        GoatDoors y = Check.told("owner 2 hides 1;owner 1 hides 1;door 0 1 #1;door 1 0 #00;door 0 1 #2;");
        // Nets of 0 in bases 3, 2, 1 are -3, -1, 0: he hides, and she does not.
        Check.due("one rests", 1, () -> y.rests(-1));
        Check.due("he who owes hides", 1, () -> y.rests(0));
        Check.due("she does not", 0, () -> y.rests(1));
    }

    /** Both who owe are best off in base 7, which one of them makes alone. */
    private static void firstOfTwoRows() {
        GoatDoors x = Check.told("owner 3 hides 1;owner 3 hides 1;owner 2;"
                + "door 0 2 #7;door 1 2 #7;door 2 0 #6;door 2 1 #6;");
        Check.due("two rest", 2, () -> x.rests(-1));
        Check.due("the first, owner 0", 0, () -> x.rests(0));
        Check.due("the first, owner 1", 1, () -> x.rests(1));
    }

    private static void gameOfFive() {
        GoatDoors x = Check.told("owner 8 hides 5;".repeat(5));
        Check.due("all rows rest", 7776, () -> x.rests(-1));
        GoatDoors y = Check.told("owner 8 hides 5;".repeat(5) + "door 0 1 #10;door 2 3 #10;");
        Check.due("only owner 4 may choose", 6, () -> y.rests(-1));
        int[] first = {5, 0, 5, 0, 0};
        for (int i = 0; i < 5; i++) {
            int owner = i;
            Check.due("the first row, " + i, first[i], () -> y.rests(owner));
        }
    }
}
