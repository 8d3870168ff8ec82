/** The bounds that the document names for what is asked of a village: terms of parts 1 and 3, promises 6 to 12. */
public final class AskBoundsTest {
    private static final String SIGNS = "0123456789abcdefghijklmnopqrstuvwxyz";
    private static final String[] LAWS = {"law void;", "law due;", "law greatest;"};
    private static final int[] FAR = {Integer.MIN_VALUE, Integer.MIN_VALUE + 1, -1000, -41, 1000, Integer.MAX_VALUE - 1, Integer.MAX_VALUE};

    public static void main(String[] args) {
        counts();
        statusCounts();
        owners();
        tonight();
        tonightOfTenDoors();
        kids();
        doors();
        lowestBases();
        figuresOfTheBase();
        bases();
        bestCounts();
        bestOfLikeOnes();
        spans();
        basesOfSpans();
        rowsOfTheGame();
        nothingHiddenOrLentCounts();
        gameDownToNoGoats();
        restIsNotHavingMore();
        noneRests();
        ownersOfTheGame();
        Check.end();
    }

    /** Promise 6: what 0 to 9; "NoSuchElementException: another what". */
    private static void counts() {
        GoatDoors x = Check.told("owner 20;owner 19;owner 1;owner 0;owner 0;" + "door 0 1 #1;".repeat(10) + "law greatest;");
        int[] want = {5, 1023, 2, 40, 40, 0, 0, 0, 0, 0};
        for (int i = 0; i < 10; i++) {
            int what = i;
            Check.due("full: count " + i, want[i], () -> x.count(what));
        }
        Check.noSuch("count -1", () -> x.count(-1));
        Check.noSuch("count 10", () -> x.count(10));
        for (int what : FAR) {
            Check.noSuch("count " + what, () -> x.count(what));
        }
    }

    /** "STATUS: how many calls were refused": each call once, and none that only throws, or finds nothing to lose. */
    private static void statusCounts() {
        GoatDoors x = Check.told("owner 1;");
        Check.illegal("not so many", () -> x.village(1));
        Check.illegal("not so many", () -> x.days(1));
        Check.noSuch("no such owner", () -> x.owner(9, 9));
        x.lose();
        x.restore();
        Check.feed(x, new byte[600]);
        x.feed(0, 0, 0, 0, 0);
        status(x, 0, 0, 0);
        x.village(600);
        status(x, 1, 0, 0);
        Check.days(x, "!!!!");
        status(x, 2, 0, 0);
        Check.days(x, "eaten 0 2;eaten 0 2;");
        status(x, 2, 1, 0);
        x.receipt(-1, -1, 99);
        status(x, 2, 1, 1);
        Check.days(x, "rub 1;");
        x.receipt(-1, 0, 0);
        x.receipt(0, -1, 0);
        status(x, 2, 2, 3);
    }

    private static void status(GoatDoors x, int texts, int days, int receipts) {
        Check.due("refused texts", texts, () -> x.count(7));
        Check.due("days that could not be", days, () -> x.count(8));
        Check.due("refused receipts", receipts, () -> x.count(9));
    }

    /** Promise 7: "NoSuchElementException: no such OWNER (as everywhere), what". */
    private static void owners() {
        for (int n = 1; n <= 5; n++) {
            GoatDoors x = Check.told("owner 3 hides 2;".repeat(n));
            int[] want = {3, 2, 0, 0, 0, 0, 0, 0, 0};
            for (int what = 0; what <= 8; what++) {
                int i = what;
                int last = n - 1;
                int behind = n;
                Check.due("owner 0, " + what, want[what], () -> x.owner(0, i));
                Check.due("the last owner, " + what, want[what], () -> x.owner(last, i));
                Check.noSuch("behind the last, " + what, () -> x.owner(behind, i));
                Check.noSuch("ahead of the first, " + what, () -> x.owner(-1, i));
            }
            Check.noSuch("what -1", () -> x.owner(0, -1));
            Check.noSuch("what 9", () -> x.owner(0, 9));
            for (int far : FAR) {
                Check.noSuch("what " + far, () -> x.owner(0, far));
                Check.noSuch("owner " + far, () -> x.owner(far, 0));
            }
        }
    }

    private static void tonightIs(GoatDoors x, int owner, int owes, int owed) {
        Check.due(owner + " owes", owes, () -> x.owner(owner, 5));
        Check.due(owner + " is owed", owed, () -> x.owner(owner, 6));
        Check.due("net of " + owner, owed - owes, () -> x.owner(owner, 7));
    }

    /** Part 3: "TONIGHT, in THE BASE": that of the last census, from 0 on. */
    private static void tonight() {
        GoatDoors x = Check.told("owner 3 hides 3;owner 0;owner 0;door 0 1 #12;door 1 2 #1;door 2 1 #0;");
        tonightIs(x, 0, 5, 0);
        tonightIs(x, 1, 1, 5);
        tonightIs(x, 2, 0, 1);
        Check.due("goats are born", 1, () -> Check.days(x, "born 0 7;"));
        tonightIs(x, 0, 5, 0);
        Check.due("and counted", 1, () -> Check.days(x, "census;"));
        tonightIs(x, 0, 12, 0);
        Check.due("all but one are eaten", 2, () -> Check.days(x, "eaten 0 9;census;"));
        tonightIs(x, 0, 2, 0);
        tonightIs(x, 1, 1, 3);
        tonightIs(x, 2, 1, 1);
        Check.due("and that one", 2, () -> Check.days(x, "eaten 0 1;census;"));
        for (int owner = 0; owner < 3; owner++) {
            tonightIs(x, owner, 0, 0);
        }
    }

    /** The most that ten doors are worth together, in base 40, and no doors. */
    private static void tonightOfTenDoors() {
        GoatDoors x = Check.told("owner 20;owner 20;" + "door 0 1 #zzzzz;".repeat(10));
        tonightIs(x, 0, 918974350, 0);
        tonightIs(x, 1, 0, 918974350);
        Check.due("best net", 918974350, () -> x.best(1, 1));
        Check.due("span", 918974350, () -> x.span(0, 0, 40));
        for (int i = 0; i < 10; i++) {
            int door = i;
            Check.due("rub", 1, () -> Check.days(x, "rub " + door + ";"));
            tonightIs(x, 0, 91897435 * (9 - door), 0);
        }
    }

    private static void kid(String text, int base, int owes, int owed) {
        GoatDoors x = Check.told(text);
        Check.due("base of " + text, base, () -> x.count(3));
        Check.due("a kid costs him who owes: " + text, owes, () -> x.owner(0, 8));
        Check.due("a kid brings him who is owed: " + text, owed, () -> x.owner(1, 8));
    }

    /** "A KID: by how much his NET is more in THE BASE and 1": from 0, 1, 2 and 40 on, and where a figure becomes one. */
    private static void kids() {
        int[] fromOne = {-1, 1, 0};
        int[] from35 = {35, 0, 1};
        for (int law = 0; law < 3; law++) {
            kid("owner 0;owner 0;door 0 1 #zz;" + LAWS[law], 0, -2, 2);
            kid("owner 1;owner 0;door 0 1 #2;" + LAWS[law], 1, -fromOne[law], fromOne[law]);
            kid("owner 20;owner 15;door 0 1 #z;" + LAWS[law], 35, -from35[law], from35[law]);
            kid("owner 20;owner 16;door 0 1 #z;" + LAWS[law], 36, 0, 0);
            kid("owner 20;owner 20;door 0 1 #10;" + LAWS[law], 40, -1, 1);
            kid("owner 20;owner 20;door 0 1 #zzzzz;" + LAWS[law], 40, -9476740, 9476740);
            kid("owner 20;owner 20;" + LAWS[law], 40, 0, 0);
        }
        GoatDoors ten = Check.told("owner 20;owner 20;" + "door 0 1 #zzzzz;".repeat(10));
        Check.due("ten doors in base 41", 94767400, () -> ten.owner(1, 8));
    }

    /** Promise 8: 0, 1, 2, "10 and on each FIGURE"; "no such DOOR (as everywhere), what". */
    private static void doors() {
        GoatDoors x = Check.told("owner 1;owner 1;door 0 1 #z;door 1 0 #12345;door 0 1 #00;");
        int[] lengths = {1, 5, 2};
        for (int i = 0; i < 3; i++) {
            int door = i;
            Check.due("by whom", door % 2, () -> x.door(door, 0));
            Check.due("to whom", 1 - door % 2, () -> x.door(door, 1));
            Check.due("figures", lengths[i], () -> x.door(door, 2));
            for (int j = -2; j < 20; j++) {
                int what = j;
                boolean figure = what >= 10 && what < 10 + lengths[i];
                if (!figure && (what < 0 || what > 2)) {
                    Check.noSuch("door " + i + ", " + j, () -> x.door(door, what));
                }
            }
            for (int far : FAR) {
                Check.noSuch("door " + i + ", " + far, () -> x.door(door, far));
                Check.noSuch("door " + far, () -> x.door(far, 0));
            }
            Check.noSuch("where less ten wraps", () -> x.door(door, Integer.MIN_VALUE + 9));
            Check.noSuch("where less ten does not", () -> x.door(door, Integer.MIN_VALUE + 10));
        }
        Check.due("the first figure", 1, () -> x.door(1, 10));
        Check.due("the last figure", 5, () -> x.door(1, 14));
        int[] none = {-1, 3, 9, 10, 31, 32, 33, 64};
        for (int door : none) {
            for (int what : new int[] {0, 1, 2, 10}) {
                Check.noSuch("door " + door + ", " + what, () -> x.door(door, what));
            }
        }
    }

    /** "THE WORTH of a DOOR in a base b: 0 in base 0; how many FIGURES it has in base 1", by each law. */
    private static void lowestBases() {
        for (String law : LAWS) {
            GoatDoors x = Check.told("owner 1;owner 1;door 0 1 #0;door 0 1 #zz;door 0 1 #000;door 0 1 #1111;door 0 1 #zzzzz;" + law);
            for (int i = 0; i < 5; i++) {
                int door = i;
                Check.due(law + " base 0 of door " + i, 0, () -> x.worth(door, 0));
                Check.due(law + " base 1 of door " + i, door + 1, () -> x.worth(door, 1));
            }
            Check.due(law + " base 2", 15, () -> x.worth(3, 2));
            Check.due(law + " 0s in base 2", 0, () -> x.worth(2, 2));
        }
    }

    /** "If one of these is b or more (b 2 or more)": the figure b in base b, by each law, and the figure b less 1. */
    private static void figuresOfTheBase() {
        for (int law = 0; law < 3; law++) {
            for (int i = 2; i <= 35; i++) {
                int b = i;
                char high = SIGNS.charAt(b);
                char low = SIGNS.charAt(b - 1);
                String text = "owner 1;owner 1;door 0 1 #" + high + ";door 0 1 #1" + high + ";door 0 1 #" + high + "0;"
                        + "door 0 1 #" + low + ";door 0 1 #1" + low + ";door 0 1 #" + low + "0;" + LAWS[law];
                GoatDoors x = Check.told(text);
                int[][] here = {{0, 0, 0}, {b, b * b, b * b}, {b - 1, 2 * b - 1, b * b - b}};
                int[] above = {b, 2 * b + 1, b * b + b};
                int[] below = {b - 1, 2 * b - 1, b * b - b};
                for (int j = 0; j < 3; j++) {
                    int door = j;
                    Check.due(LAWS[law] + " figure b in base " + b, here[law][j], () -> x.worth(door, b));
                    Check.due(LAWS[law] + " figure b in base and 1 " + b, above[j], () -> x.worth(door, b + 1));
                    Check.due(LAWS[law] + " figure b less 1 in base " + b, below[j], () -> x.worth(3 + door, b));
                }
            }
        }
    }

    /** Promise 9: "IllegalArgumentException (behind NoSuchElementException): a base is not 0 to 40 (as everywhere)". */
    private static void bases() {
        GoatDoors x = Check.told("owner 1;owner 1;door 0 1 #10;");
        for (int i = 2; i <= 40; i++) {
            int base = i;
            Check.due("#10 in base " + i, base, () -> x.worth(0, base));
        }
        int[] none = {-1, -2, 41, 42, Integer.MIN_VALUE, Integer.MAX_VALUE};
        for (int base : none) {
            Check.illegal("base " + base, () -> x.worth(0, base));
            Check.noSuch("no such door, first", () -> x.worth(1, base));
            Check.noSuch("no such door, first", () -> x.worth(-1, base));
        }
        Check.noSuch("no such door", () -> x.worth(1, 0));
        Check.noSuch("no such door", () -> x.worth(10, 40));
    }

    private static void best(GoatDoors x, int owner, int base, int net) {
        Check.due("best count of " + owner, base, () -> x.best(owner, 0));
        Check.due("net in it of " + owner, net, () -> x.best(owner, 1));
    }

    /** Promise 10: bases 0 to 40, what 0 and 1; "NoSuchElementException: also another what". */
    private static void bestCounts() {
        GoatDoors x = Check.told("owner 1;owner 1;owner 1;door 0 1 #10;");
        best(x, 0, 0, 0);
        best(x, 1, 40, 40);
        best(x, 2, 0, 0);
        int[] none = {-1, 2, 3, Integer.MIN_VALUE, Integer.MAX_VALUE};
        for (int what : none) {
            Check.noSuch("what " + what, () -> x.best(0, what));
        }
        Check.noSuch("owner 3", () -> x.best(3, 0));
        Check.noSuch("owner -1", () -> x.best(-1, 1));
        for (int far : FAR) {
            Check.noSuch("owner " + far, () -> x.best(far, 0));
        }
    }

    /** "of like ones the least". */
    private static void bestOfLikeOnes() {
        best(Check.told("owner 1;owner 1;door 0 1 #1;"), 1, 1, 1);
        best(Check.told("owner 1;owner 1;door 0 1 #z;"), 1, 36, 35);
        best(Check.told("owner 1;owner 1;door 0 1 #z;law due;"), 1, 35, 35);
        best(Check.told("owner 1;owner 1;door 0 1 #z;law greatest;"), 1, 36, 35);
        best(Check.told("owner 1;owner 1;door 0 1 #00;"), 1, 1, 2);
        best(Check.told("owner 1;owner 1;door 0 1 #2;law due;"), 1, 2, 2);
        best(Check.told("owner 1;owner 1;door 0 1 #10;door 1 0 #10;"), 1, 0, 0);
        // What he owes is void in base 4 still, what he is owed no more.
        best(Check.told("owner 1;owner 1;door 0 1 #3;door 1 0 #4;"), 1, 4, 3);
    }

    /** "SPAN of an OWNER over bases from a to b": one base, two, all. */
    private static void spans() {
        GoatDoors x = Check.told("owner 1;owner 1;owner 1;door 0 1 #10;");
        for (int owner = 0; owner < 2; owner++) {
            int who = owner;
            for (int i = 0; i <= 40; i++) {
                int base = i;
                Check.due("over one base", 0, () -> x.span(who, base, base));
            }
            Check.due("0 to 1", 2, () -> x.span(who, 0, 1));
            Check.due("1 to 2", 0, () -> x.span(who, 1, 2));
            Check.due("2 to 3", 1, () -> x.span(who, 2, 3));
            Check.due("39 to 40", 1, () -> x.span(who, 39, 40));
            Check.due("0 to 40", 40, () -> x.span(who, 0, 40));
            Check.due("1 to 40", 38, () -> x.span(who, 1, 40));
            Check.due("0 to 39", 39, () -> x.span(who, 0, 39));
        }
        Check.due("who has no doors", 0, () -> x.span(2, 0, 40));
        // Nets of 1 are 3 in bases 4 to 6, 9 in 7 to 9, 1 in base 1, else 0; those of 2 as far below 0.
        GoatDoors y = Check.told("owner 1;owner 1;owner 1;door 2 1 #3;door 2 1 #6;door 1 2 #9;");
        int[][] want = {{0, 40, 9}, {0, 6, 3}, {6, 7, 6}, {7, 9, 0}, {9, 10, 9}, {10, 40, 0}, {2, 3, 0}, {0, 1, 1}, {3, 10, 9}};
        for (int[] w : want) {
            Check.due("the greatest within " + w[0] + " to " + w[1], w[2], () -> y.span(1, w[0], w[1]));
            Check.due("the least within " + w[0] + " to " + w[1], w[2], () -> y.span(2, w[0], w[1]));
        }
    }

    /** Promise 11: "IllegalArgumentException, too: a is above b (as everywhere)", bases 0 to 40, behind no such owner. */
    private static void basesOfSpans() {
        GoatDoors x = Check.told("owner 1;owner 1;door 0 1 #10;");
        int[][] wrong = {{1, 0}, {40, 39}, {40, 0}, {-1, 0}, {-1, -1}, {-1, 40}, {0, 41}, {40, 41}, {41, 41}, {41, 40}, {-2, -1},
            {0, -1}, {Integer.MIN_VALUE, 40}, {0, Integer.MAX_VALUE}, {Integer.MIN_VALUE, Integer.MAX_VALUE},
            {Integer.MAX_VALUE, Integer.MIN_VALUE}, {Integer.MAX_VALUE, Integer.MAX_VALUE}};
        for (int[] ab : wrong) {
            Check.illegal("span " + ab[0] + " to " + ab[1], () -> x.span(0, ab[0], ab[1]));
            Check.noSuch("no such owner, first", () -> x.span(2, ab[0], ab[1]));
            Check.noSuch("no such owner, first", () -> x.span(-1, ab[0], ab[1]));
        }
        Check.noSuch("no such owner", () -> x.span(2, 0, 40));
    }

    /** "each OWNER hides 0, 1 .. as many as he can HIDE (and has GOATS": without doors each row rests. */
    private static void rowsOfTheGame() {
        String[] owners = {"owner 0 hides 5;", "owner 1 hides 5;", "owner 4 hides 5;", "owner 5 hides 5;", "owner 6 hides 5;",
            "owner 9 hides 1;", "owner 9 hides 0;", "owner 9;"};
        int[] rows = {1, 2, 5, 6, 6, 2, 1, 1};
        for (int i = 0; i < owners.length; i++) {
            GoatDoors one = Check.told(owners[i]);
            int want = rows[i];
            Check.due("rows of " + owners[i], want, () -> one.rests(-1));
            Check.due("the first of " + owners[i], 0, () -> one.rests(0));
            for (int j = 0; j < owners.length; j++) {
                GoatDoors two = Check.told(owners[i] + owners[j]);
                Check.due("rows of " + owners[i] + owners[j], rows[i] * rows[j], () -> two.rests(-1));
            }
        }
        GoatDoors five = Check.told("owner 8 hides 5;".repeat(5));
        Check.due("the most rows", 7776, () -> five.rests(-1));
        GoatDoors minding = Check.told("owner 8 hides 5;".repeat(5) + "door 0 1 #10;door 2 3 #10;");
        Check.due("where only the last one does not mind", 6, () -> minding.rests(-1));
        int[] first = {5, 0, 5, 0, 0};
        for (int i = 0; i < 5; i++) {
            int owner = i;
            Check.due("what " + i + " hides", first[i], () -> minding.rests(owner));
        }
        GoatDoors most = Check.told("owner 8 hides 5;".repeat(5) + "door 0 1 #10;door 2 1 #10;door 3 1 #10;door 4 1 #10;");
        Check.due("four hide all they can", 1, () -> most.rests(-1));
        Check.due("so does the last one", 5, () -> most.rests(4));
        Check.due("and one nothing", 0, () -> most.rests(1));
    }

    /** "what was hidden or lent counts for nothing"; nor does the last census: the base would be of all goats. */
    private static void nothingHiddenOrLentCounts() {
        GoatDoors x = Check.told("owner 5 hides 4;owner 3 hides 2;door 0 1 #10;");
        Check.due("lent and hidden", 3, () -> Check.days(x, "lent 0 1 5;hidden 1 2;lent 1 0 1;"));
        Check.due("one row", 1, () -> x.rests(-1));
        Check.due("he hides all he can", 4, () -> x.rests(0));
        Check.due("she hides none", 0, () -> x.rests(1));
        GoatDoors y = Check.told("owner 3 hides 1;owner 0;door 0 1 #3;");
        Check.due("void in 3 and 2 goats", 2, () -> y.rests(-1));
        Check.due("one is born", 1, () -> Check.days(y, "born 0 1;"));
        Check.due("no census is taken", 3, () -> y.count(3));
        Check.due("worth 3 in 4 goats", 1, () -> y.rests(-1));
        Check.due("he hides it", 1, () -> y.rests(0));
        Check.due("goats are eaten", 1, () -> Check.days(y, "eaten 0 4;"));
        Check.due("he has none to hide", 1, () -> y.rests(-1));
        Check.due("he hides none", 0, () -> y.rests(0));
    }

    /** "THE BASE would be all GOATS less all that is hidden": down to 0. */
    private static void gameDownToNoGoats() {
        GoatDoors x = Check.told("owner 5 hides 5;owner 0;door 0 1 #1;");
        Check.due("one row rests", 1, () -> x.rests(-1));
        Check.due("nothing is owed in base 0", 5, () -> x.rests(0));
        GoatDoors y = Check.told("owner 5 hides 4;owner 0;door 0 1 #1;");
        Check.due("as much is owed in base 1 as in 5", 5, () -> y.rests(-1));
        GoatDoors z = Check.told("owner 5 hides 5;owner 5 hides 5;owner 0;door 0 2 #1;");
        // Nobody but he who owes minds; alone he can't come down to 0, so with 5 others hidden he hides 5, else anything.
        Check.due("rows", 1 + 5 * 6, () -> z.rests(-1));
        Check.due("the first", 0, () -> z.rests(0));
        Check.due("the first", 0, () -> z.rests(1));
    }

    /** "if nobody could have more NET by hiding another number": as much is not more. */
    private static void restIsNotHavingMore() {
        GoatDoors x = Check.told("owner 9 hides 5;owner 9;door 0 1 #2;");
        Check.due("#2 is worth as much in 13 goats and in 18", 6, () -> x.rests(-1));
        GoatDoors y = Check.told("owner 9 hides 5;owner 9;door 0 1 #h;");
        // 17 is a figure in 18 goats only: in all others it is void.
        Check.due("all but hiding none", 5, () -> y.rests(-1));
        Check.due("the first", 1, () -> y.rests(0));
        GoatDoors z = Check.told("owner 9 hides 5;owner 9;door 1 0 #h;");
        Check.due("only hiding none", 1, () -> z.rests(-1));
        Check.due("the first", 0, () -> z.rests(0));
    }

    /** Promise 12: "NoSuchElementException: also none rests"; how many do is 0 then. */
    private static void noneRests() {
        // Nets of 0 in bases 4, 3, 2 are -2, -4, -3: whatever they hide, one of both would have it otherwise.
        GoatDoors x = Check.told("owner 2 hides 1;owner 2 hides 1;owner 0;door 0 1 #11;door 1 0 #3;");
        Check.due("none", 0, () -> x.rests(-1));
        for (int i = 0; i < 3; i++) {
            int owner = i;
            Check.noSuch("what " + i + " hides in none", () -> x.rests(owner));
        }
        Check.due("another door", 1, () -> Check.days(x, "rub 1;"));
        Check.due("one rests", 1, () -> x.rests(-1));
        Check.due("the first", 1, () -> x.rests(0));
    }

    /** Promise 12: owner NONE or an owner. */
    private static void ownersOfTheGame() {
        for (int n = 0; n <= 5; n++) {
            GoatDoors x = Check.told("owner 2 hides 1;".repeat(n));
            int many = n;
            Check.due("rows of " + n, 1 << many, () -> x.rests(-1));
            if (n > 0) {
                Check.due("the last one hides", 0, () -> x.rests(many - 1));
            }
            Check.noSuch("behind the last", () -> x.rests(many));
            Check.noSuch("-2", () -> x.rests(-2));
            for (int far : FAR) {
                Check.noSuch("owner " + far, () -> x.rests(far));
            }
        }
    }
}
