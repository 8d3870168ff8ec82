/** Promises 2, 3, 5, 6 and 8: the tape, villages, their faults, and what was told. */
public final class TextsTest {
    private static final String FIVE = "owner 1;owner 2;owner 3;owner 4;owner 5;";

    public static void main(String[] args) {
        tape();
        bytesOfTheTape();
        soundVillages();
        faultsOfTokens();
        faultsOfTooMuch();
        faultsOfOwners();
        refusedVillageChangesNothing();
        newVillageIsAllAnew();
        faultsLeaveNothingBehind();
        wrongInputs();
        Check.end();
    }

    private static void tape() {
        GoatDoors x = new GoatDoors();
        for (int i = 1; i <= 30; i++) {
            int bytes = 20 * i;
            Check.due("feed " + i, bytes, () -> x.feed(0, 0, 0, 0, 0));
        }
        Check.due("feed above 600", -1, () -> x.feed(0, 0, 0, 0, 0));
        Check.due("tape", 600, () -> x.count(6));
        Check.illegal("more than the tape", () -> x.village(601));
        Check.illegal("fewer than none", () -> x.village(-1));
        Check.illegal("days: more than the tape", () -> x.days(601));
        Check.illegal("days: fewer than none", () -> x.days(-1));
        Check.due("tape as ahead", 600, () -> x.count(6));
        Check.due("no refused text", 0, () -> x.count(7));
        Check.due("days of no bytes", 0, () -> x.days(0));
        Check.due("the tape is empty", 0, () -> x.count(6));
        Check.illegal("an empty tape", () -> x.village(1));
        Check.due("village of no bytes", 0, () -> x.village(0));
        Check.due("feed anew", 20, () -> x.feed(0, 0, 0, 0, 0));
    }

    /** The highest byte of a number comes first, and bytes stay in their order. */
    private static void bytesOfTheTape() {
        GoatDoors x = new GoatDoors();
        x.feed(0x6f776e65, 0x7220373b, 0x20202020, 0x20202020, 0x20202021);
        Check.due("owner 7;", 0, () -> x.village(8));
        Check.due("his goats", 7, () -> x.owner(0, 0));
        x.feed(0x6f776e65, 0x7220373b, 0x20202020, 0x20202020, 0x20202021);
        Check.due("owner 7; and a sign", 1, () -> x.village(20));
        Check.due("its place", 19, x::fault);
        x.feed(0x6f776e65, 0x7220373b, 0x20202020, 0x20202020, 0x202020ff);
        Check.due("owner 7; and byte 255", 1, () -> x.village(20));
        Check.due("its place", 19, x::fault);
    }

    private static void soundVillages() {
        GoatDoors x = Check.told(" owner 0\nhides 5;owner 020;law greatest ; door 1 0 #0za9;\ndoor 000 1#1 ;owner20hides0; \n");
        Check.due("owners", 3, () -> x.count(0));
        Check.due("doors", 3, () -> x.count(1));
        Check.due("law", 2, () -> x.count(2));
        Check.due("base", 40, () -> x.count(3));
        Check.due("goats", 40, () -> x.count(4));
        Check.due("hides", 5, () -> x.owner(0, 1));
        Check.due("hides without", 0, () -> x.owner(1, 1));
        Check.due("goats of 1", 20, () -> x.owner(1, 0));
        Check.due("by whom", 1, () -> x.door(0, 0));
        Check.due("to whom", 0, () -> x.door(0, 1));
        Check.due("figures", 4, () -> x.door(0, 2));
        int[] figures = {0, 35, 10, 9};
        for (int i = 0; i < 4; i++) {
            int at = i;
            Check.due("figure " + i, figures[i], () -> x.door(0, 10 + at));
        }
        Check.due("by whom", 0, () -> x.door(1, 0));
        Check.due("law void", 0, () -> Check.told("law void;").count(2));
        Check.due("law due", 1, () -> Check.told("law due;").count(2));
        Check.due("no law", 0, () -> Check.told("").count(2));
        Check.told(FIVE + "door 4 3 #1;".repeat(10) + "law due;");
        Check.told("owner 20;owner 20;owner 0;");
    }

    private static void fault(String text, int fault, int place) {
        GoatDoors x = new GoatDoors();
        Check.due(text, fault, () -> Check.village(x, text));
        Check.due("place in " + text, place, x::fault);
        Check.due("refused", fault == 0 ? 0 : 1, () -> x.count(7));
        Check.due("the tape is empty", 0, () -> x.count(6));
    }

    private static void faultsOfTokens() {
        fault(";", 1, 0);
        fault("owners 1;", 1, 0);
        fault("owne 1;", 1, 0);
        fault("7;", 1, 0);
        fault("#1;", 1, 0);
        fault("  Owner 1;", 1, 2);
        fault("owner", 1, 5);
        fault("owner 1", 1, 7);
        fault("owner 1  \n ", 1, 11);
        fault("owner ;", 1, 6);
        fault("owner #1;", 1, 6);
        fault("owner #1234567;", 1, 6);
        fault("owner 1 2;", 1, 8);
        fault("owner 1 2222;", 1, 8);
        fault("owner 1 hide 2;", 1, 8);
        fault("owner 1 hides;", 1, 13);
        fault("owner 1 hides 2 hides 2;", 1, 16);
        fault("owner 1\thides 2;", 1, 7);
        fault("owner -1;", 1, 6);
        fault(FIVE + "door 0 1;", 1, 48);
        fault(FIVE + "door 0 #1;", 1, 47);
        fault(FIVE + "door 01 #1;", 1, 48);
        fault(FIVE + "door 0 1 1;", 1, 49);
        fault(FIVE + "door 0 1 #;", 1, 49);
        fault(FIVE + "door 0 1 #A;", 1, 49);
        fault(FIVE + "door 0 1 #1A;", 1, 51);
        fault(FIVE + "door 0 1 # 1;", 1, 49);
        fault(FIVE + "door 0 1 #1 #1;", 1, 52);
        fault("law;", 1, 3);
        fault("law", 1, 3);
        fault("law voids;", 1, 4);
        fault("law void", 1, 8);
        fault("law void due;", 1, 9);
        fault("law #void;", 1, 4);
    }

    private static void faultsOfTooMuch() {
        fault("owner 21;", 2, 6);
        fault("owner 0001;", 2, 6);
        fault("owner 20;owner 19;owner 2;", 2, 24);
        fault("owner 1 hides 6;", 2, 14);
        fault("owner 1 hides 0000;", 2, 14);
        fault(FIVE + "owner;", 2, 40);
        fault(FIVE + "owner 99;", 2, 40);
        fault(FIVE + "door 0 1 #1;".repeat(10) + "door;", 2, 160);
        fault(FIVE + "door 0000 1 #1;", 2, 45);
        fault(FIVE + "door 0 0000 #1;", 2, 47);
        fault(FIVE + "door 0 1 #123456", 2, 49);
        fault("owner 21 !", 2, 6);
    }

    private static void faultsOfOwners() {
        fault("door 0 1 #1;owner 1;owner 1;", 3, 5);
        fault("owner 1;door 0 1 #1;owner 1;", 3, 15);
        fault("owner 1;door 1 1 #1;", 3, 13);
        fault(FIVE + "door 5 1 #1;", 3, 45);
        fault(FIVE + "door 1 999 #1;", 3, 47);
        fault(FIVE + "door 4 4 #1;", 4, 47);
        fault(FIVE + "door 4 04 #1;", 4, 47);
        fault("law due;owner 1;law due;", 4, 16);
        fault("law due;law", 4, 8);
        fault("law due; law 7", 4, 9);
    }

    private static void refusedVillageChangesNothing() {
        GoatDoors x = Check.told("owner 5 hides 2;owner 4;door 0 1 #12;law due;");
        Check.days(x, "lent 1 0 2;hidden 0 1;");
        x.receipt(1, 5, 0);
        x.image();
        Check.due("fault 3", 3, () -> Check.village(x, "owner 9;door 0 1 #1;"));
        Check.due("owners", 2, () -> x.count(0));
        Check.due("doors", 1, () -> x.count(1));
        Check.due("law", 1, () -> x.count(2));
        Check.due("base", 9, () -> x.count(3));
        Check.due("receipts", 1, () -> x.count(5));
        Check.due("hidden", 1, () -> x.owner(0, 2));
        Check.due("lent", 2, () -> x.owner(1, 3));
        Check.due("figure", 2, () -> x.door(0, 11));
        Check.due("the image is kept", 1, () -> x.restore() ? 1 : 0);
        Check.illegal("not so many", () -> x.village(1));
        Check.due("the fault's place stays", 15, x::fault);
    }

    private static void newVillageIsAllAnew() {
        GoatDoors x = Check.told("owner 5 hides 2;owner 4;door 0 1 #12;law due;");
        Check.days(x, "lent 0 1 2;hidden 0 1;rub 5;");
        Check.days(x, "!");
        x.receipt(1, 5, 0);
        x.receipt(-1, 5, 0);
        x.image();
        Check.due("a village anew", 0, () -> Check.village(x, "owner 6;owner 7;owner 8;"));
        Check.due("no fault", -1, x::fault);
        long[] counts = {3, 0, 0, 21, 21, 0, 0, 1, 1, 1};
        for (int i = 0; i < counts.length; i++) {
            int what = i;
            Check.due("anew: count " + i, counts[i], () -> x.count(what));
        }
        for (int i = 1; i < 5; i++) {
            int what = i;
            Check.due("anew: owner 0, " + i, 0, () -> x.owner(0, what));
            Check.due("anew: owner 1, " + i, 0, () -> x.owner(1, what));
        }
        Check.due("the image is gone", 0, () -> x.restore() ? 1 : 0);
    }

    private static void faultsLeaveNothingBehind() {
        GoatDoors x = new GoatDoors();
        Check.due("ten doors, a law and a fault", 1, () -> Check.village(x, FIVE + "law due;" + "door 0 1 #1;".repeat(10) + "!"));
        Check.due("as many again", 0, () -> Check.village(x, FIVE + "law void;" + "door 0 1 #2;".repeat(10)));
        Check.due("law", 0, () -> x.count(2));
        Check.due("the law is told once a village", 0, () -> Check.village(x, "law greatest;"));
        Check.due("law", 2, () -> x.count(2));
    }

    private static void wrongInputs() {
        GoatDoors x = Check.told("owner 5;owner 4;door 0 1 #12;");
        Check.noSuch("count -1", () -> x.count(-1));
        Check.noSuch("count 10", () -> x.count(10));
        int[] none = {-1, 3, 9, 12, Integer.MAX_VALUE, Integer.MIN_VALUE, Integer.MIN_VALUE + 10};
        for (int what : none) {
            Check.noSuch("door 0, " + what, () -> x.door(0, what));
        }
        int[] doors = {-1, 1, 9, 10, 31, 32, 64, Integer.MAX_VALUE, Integer.MIN_VALUE};
        for (int door : doors) {
            Check.noSuch("door " + door, () -> x.door(door, 0));
        }
        int[] owners = {-1, 2, 5, 6, Integer.MAX_VALUE, Integer.MIN_VALUE};
        for (int owner : owners) {
            Check.noSuch("owner " + owner, () -> x.owner(owner, 0));
        }
    }
}
