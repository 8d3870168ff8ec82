/** The bounds that the document names for days: terms of part 2, promises 4, 25 and 26. */
public final class DayBoundsTest {
    private static final String THREE = "owner 9 hides 3;owner 7 hides 5;owner 6;door 0 1 #1;door 1 2 #2;door 2 0 #3;";
    private static final String FIVE = "owner 8 hides 5;".repeat(5);

    public static void main(String[] args) {
        amounts();
        ownersThatThereAre();
        doorsUpToNine();
        twiceTheSame();
        rowsOfDebts();
        wordsOfDays();
        lettersOfWords();
        endsTooSoon();
        leastFaultOfOneToken();
        noneIsDoneWithFault();
        doneTillOneCantBe();
        mostDays();
        born();
        eaten();
        lent();
        hidden();
        census();
        rub();
        write();
        swap();
        howManyBytes();
        noImage();
        imageOfNothing();
        latterImage();
        whatAnImageKeeps();
        whatAnImageDoesNotKeep();
        imageAndVillages();
        Check.end();
    }

    /** So many days are done; refused is how often days could not be, in all. */
    private static void done(GoatDoors x, String text, int done, int refused) {
        Check.due("days " + text, done, () -> Check.days(x, text));
        Check.due("days that could not be behind " + text, refused, () -> x.count(8));
        Check.due("refused texts behind " + text, 0, () -> x.count(7));
        Check.due("fault behind " + text, -1, x::fault);
        Check.due("tape behind " + text, 0, () -> x.count(6));
    }

    private static void faultIn(String village, String text, int fault, int place) {
        GoatDoors x = Check.told(village);
        Check.due("days " + text, -1 - fault, () -> Check.days(x, text));
        Check.due("place in " + text, place, x::fault);
        Check.due("refused texts behind " + text, 1, () -> x.count(7));
        Check.due("days that could not be behind " + text, 0, () -> x.count(8));
        Check.due("tape behind " + text, 0, () -> x.count(6));
    }

    private static void fault(String text, int fault, int place) {
        faultIn(THREE, text, fault, place);
    }

    /** No fault, whether it can be done or not. */
    private static void sound(String text) {
        GoatDoors x = Check.told(THREE);
        Check.due("days " + text + " are sound", 1, () -> Check.days(x, text) >= 0 ? 1 : 0);
        Check.due("place in " + text, -1, x::fault);
    }

    /** "FAULTS: 1, 2 as above (a NUMBER: 1 to 20, 'hidden' 0 to 20)". */
    private static void amounts() {
        String[] heads = {"born 0 ", "eaten 0 ", "lent 0 1 "};
        for (String head : heads) {
            fault(head + "0;", 2, head.length());
            fault(head + "000;", 2, head.length());
            sound(head + "1;");
            sound(head + "001;");
            sound(head + "20;");
            sound(head + "020;");
            fault(head + "21;", 2, head.length());
            fault(head + "999;", 2, head.length());
            fault(head + "0001;", 2, head.length());
            fault(head + "4294967297;", 2, head.length());
            fault(head + ";", 1, head.length());
            fault(head + "#1;", 1, head.length());
        }
        sound("hidden 0 0;");
        sound("hidden 0 000;");
        sound("hidden 0 20;");
        fault("hidden 0 21;", 2, 9);
        fault("hidden 0 0000;", 2, 9);
        fault("hidden 0 -1;", 1, 9);
    }

    /** "3 an OWNER that there isn't". */
    private static void ownersThatThereAre() {
        String[] villages = {"", "owner 5;", "owner 5;owner 5;", "owner 5;owner 5;owner 5;", "owner 5;owner 5;owner 5;owner 5;", FIVE};
        for (int n = 0; n <= 5; n++) {
            faultIn(villages[n], "born " + n + " 1;", 3, 5);
            faultIn(villages[n], "eaten " + n + " 1;", 3, 6);
            faultIn(villages[n], "hidden " + n + " 0;", 3, 7);
            faultIn(villages[n], "lent " + n + " 0 1;", 3, 5);
            faultIn(villages[n], "write " + n + " 0 #1;", 3, 6);
            faultIn(villages[n], "born 999 1;", 3, 5);
            if (n > 0) {
                faultIn(villages[n], "lent 0 " + n + " 1;", 3, 7);
                faultIn(villages[n], "write 0 " + n + " #1;", 3, 8);
                GoatDoors x = Check.told(villages[n].replace("8", "5"));
                done(x, "born " + (n - 1) + " 1;eaten " + (n - 1) + " 1;hidden " + (n - 1) + " 0;", 3, 0);
            }
            if (n > 1) {
                GoatDoors x = Check.told(villages[n]);
                done(x, "lent 0 " + (n - 1) + " 1;lent " + (n - 1) + " 0 1;write 0 " + (n - 1) + " #1;", 3, 0);
            }
        }
        fault("lent 3 3 1;", 3, 5);
        // Doors are counted up to 9, whoever lives there, but not owners.
        faultIn("", "swap 0 1;rub 9;write 0 1 #1;", 3, 21);
    }

    /** "3 .. a DOOR above 9". */
    private static void doorsUpToNine() {
        for (int door = 0; door <= 9; door++) {
            sound("rub " + door + ";");
            sound("swap " + door + " " + (door + 1) % 10 + ";");
            sound("rub 00" + door + ";");
        }
        fault("rub 10;", 3, 4);
        fault("rub 010;", 3, 4);
        fault("rub 999;", 3, 4);
        fault("rub 0009;", 2, 4);
        fault("swap 10 0;", 3, 5);
        fault("swap 0 10;", 3, 7);
        fault("swap 10 10;", 3, 5);
        fault("swap 0 0001;", 2, 7);
    }

    /** "4 a second OWNER, or DOOR, that is the first one". */
    private static void twiceTheSame() {
        for (int i = 0; i < 3; i++) {
            fault("lent " + i + " " + i + " 1;", 4, 7);
            fault("write " + i + " " + i + " #1;", 4, 8);
        }
        for (int i = 0; i < 10; i++) {
            fault("swap " + i + " " + i + ";", 4, 7);
            fault("swap " + i + " 0" + i + ";", 4, 7);
        }
        fault("lent 1 001 1;", 4, 7);
        fault("lent 1 1 0;", 4, 7);
        fault("write 1 1 #;", 4, 8);
        // Another day may begin with whom the last one ended.
        sound("rub 0;rub 0;swap 0 1;swap 1 0;lent 0 1 1;lent 1 0 1;");
    }

    /** A debt's row in days: 1 to 5 figures, as in a village. */
    private static void rowsOfDebts() {
        GoatDoors x = Check.told("owner 1;owner 1;");
        done(x, "write 0 1 #0;write 0 1 #zz;write 1 0 #a0z;write 0 1 #9999;write 1 0 #zyxwv;", 5, 0);
        for (int i = 0; i < 5; i++) {
            int door = i;
            Check.due("figures of door " + i, door + 1, () -> x.door(door, 2));
            Check.noSuch("behind its last", () -> x.door(door, 11 + door));
        }
        Check.due("the last figure of all", 31, () -> x.door(4, 14));
        fault("write 0 1 #;", 1, 10);
        fault("write 0 1 # 1;", 1, 10);
        fault("write 0 1 1;", 1, 10);
        fault("write 0 1;", 1, 9);
        fault("write 0 1 #123456;", 2, 10);
        fault("write 0 1 #1 #1;", 1, 13);
    }

    /** 1: "a TOKEN that can't stand there": words of a village, longer and shorter ones, a sign that is none. */
    private static void wordsOfDays() {
        String[] words = {"owner 1;", "door 0 1 #1;", "law due;", "borne 0 1;", "bor 0 1;", "census1;", "Census;", "rubs 1;",
            "swaps 0 1;", "hides 0 1;", "hidde 0 1;", ";", "7;", "#1;", "#;", "!", "void;", "0000;", "#123456;"};
        for (String word : words) {
            int place = word.equals("census1;") ? 6 : 0;
            fault(word, 1, place);
            fault("census;\n " + word, 1, 9 + place);
        }
        fault("census;;", 1, 7);
        fault("census census;", 1, 7);
        fault("rub 1 2;", 1, 6);
        fault("swap 1;", 1, 6);
        fault("swap 1 2 3;", 1, 9);
        fault("born 0 1 1;", 1, 9);
        fault("lent 0 1;", 1, 8);
        sound("\n census \n;\n rub\n0 ;");
        sound("born0 1;rub0;hidden0 1;");
    }

    /** "In quotes is what stands there": no word that is one letter off does. */
    private static void lettersOfWords() {
        String[] days = {"born 0 1;", "eaten 0 1;", "lent 0 1 1;", "hidden 0 1;", "census ;", "rub 0;", "write 0 1 #1;", "swap 0 1;"};
        for (String day : days) {
            int end = day.indexOf(' ');
            sound(day);
            for (String word : VillageBoundsTest.almost(day.substring(0, end))) {
                fault(word + day.substring(end), 1, 0);
            }
        }
    }

    /** 1: "the text's length where it ends too soon". */
    private static void endsTooSoon() {
        String[] texts = {"born", "born 0", "born 0 1", "eaten", "eaten 0", "eaten 0 1", "lent", "lent 0", "lent 0 1", "lent 0 1 1",
            "hidden", "hidden 0", "hidden 0 0", "census", "rub", "rub 0", "write", "write 0", "write 0 1", "write 0 1 #1",
            "swap", "swap 0", "swap 0 1"};
        for (String text : texts) {
            fault(text, 1, text.length());
            fault(text + " \n", 1, text.length() + 2);
            fault("census;" + text, 1, 7 + text.length());
        }
        String long600 = "census;".repeat(85) + "rub 9";
        fault(long600, 1, 600);
    }

    /** "of one TOKEN the least", "the first along the text". */
    private static void leastFaultOfOneToken() {
        fault("born 9999 0;", 2, 5);
        fault("born #123456 0;", 1, 5);
        fault("born 3 0;", 3, 5);
        fault("born 0 0 0;", 2, 7);
        fault("lent 0 0000 1;", 2, 7);
        fault("swap 1 0001;", 2, 7);
        fault("write 0 1 0000;", 1, 10);
        fault("rub 10;!", 3, 4);
        fault("!rub 10;", 1, 0);
    }

    /** "With a FAULT none is done": all stays, but the tape, STATUS 0 and the fault's place. */
    private static void noneIsDoneWithFault() {
        String first = "born 0 1;eaten 2 1;lent 2 0 1;hidden 1 1;rub 0;write 0 1 #7;swap 1 3;census;";
        String[] last = {"sing;", "born 0 21;", "rub 10;", "lent 1 1 1;", "census"};
        int[] faults = {1, 2, 3, 4, 1};
        int[] places = {0, 7, 4, 7, 6};
        for (int i = 0; i < last.length; i++) {
            String text = first + last[i];
            String place = Integer.toString(first.length() + places[i]);
            Twins.stayWith(text, "days " + text, Integer.toString(-1 - faults[i]), x -> x.days(text.length()),
                    "count 6", "0", "count 7", "2", "fault", place,
                    "image: count 6", "0", "image: count 7", "2", "image: fault", place);
        }
    }

    /** "Else they are done one by one, till one can't be (STATUS 1)". */
    private static void doneTillOneCantBe() {
        GoatDoors x = Check.told(THREE);
        done(x, "", 0, 0);
        done(x, "rub 3;born 0 1;", 0, 1);
        Check.due("what comes behind is not done", 22, () -> x.count(4));
        done(x, "born 0 1;rub 3;born 0 1;rub 3;", 1, 2);
        Check.due("what comes ahead is", 23, () -> x.count(4));
        done(x, "born 0 1;rub 2;rub 2;", 2, 3);
        Check.due("goats", 24, () -> x.count(4));
        Check.due("doors", 3, () -> x.count(1));
        done(x, "born 0 1;", 1, 3);
    }

    /** Texts of 600 bytes that are nothing but days. */
    private static void mostDays() {
        GoatDoors x = Check.told(THREE);
        done(x, "census;".repeat(85) + "     ", 85, 0);
        done(x, "rub 0;".repeat(100), 1, 1);
        done(x, "rub 9;".repeat(100), 0, 2);
        GoatDoors y = Check.told("owner 1;");
        String text = "born0 1;eaten0 1;".repeat(35) + "rub4;";
        Check.due("bytes", 600, text::length);
        done(y, text, 70, 1);
        Check.due("goats", 1, () -> y.count(4));
        GoatDoors z = Check.told("owner 1;owner 1;");
        done(z, "write0 1#1;rub0;".repeat(37) + "rub 0;  ", 74, 1);
    }

    /** "born: his GOATS are so many more (all are no more than 40 then)". */
    private static void born() {
        GoatDoors x = Check.told("owner 20;owner 10;owner 0;");
        done(x, "born 2 11;", 0, 1);
        Check.due("all goats", 30, () -> x.count(4));
        done(x, "born 2 10;", 1, 1);
        Check.due("all goats", 40, () -> x.count(4));
        Check.due("his goats", 10, () -> x.owner(2, 0));
        for (int owner = 0; owner < 3; owner++) {
            done(x, "born " + owner + " 1;", 0, 2 + owner);
        }
        Check.due("the base stays till a census", 30, () -> x.count(3));
        done(x, "eaten 1 10;eaten 2 10;born 0 20;", 3, 4);
        Check.due("one may have them all", 40, () -> x.owner(0, 0));
        done(x, "census;", 1, 4);
        Check.due("a base of 40", 40, () -> x.count(3));
        // Goats that are lent or hidden are goats.
        GoatDoors y = Check.told("owner 20 hides 5;owner 19;");
        done(y, "hidden 0 5;lent 1 0 9;born 0 2;", 2, 1);
        done(y, "born 0 1;", 1, 1);
        Check.due("what is hidden stays", 5, () -> y.owner(0, 2));
    }

    /** "eaten: so many fewer (he has so many that are not lent or hidden)". */
    private static void eaten() {
        GoatDoors x = Check.told("owner 9 hides 3;owner 7;");
        done(x, "eaten 0 10;", 0, 1);
        done(x, "eaten 0 9;", 1, 1);
        Check.due("none is left", 0, () -> x.owner(0, 0));
        done(x, "eaten 0 1;", 0, 2);
        GoatDoors hiding = Check.told("owner 9 hides 3;owner 7;");
        done(hiding, "hidden 0 3;eaten 0 7;", 1, 1);
        done(hiding, "eaten 0 6;", 1, 1);
        done(hiding, "eaten 0 1;", 0, 2);
        Check.due("the hidden ones are left", 3, () -> hiding.owner(0, 0));
        done(hiding, "hidden 0 2;eaten 0 1;eaten 0 1;", 2, 3);
        done(hiding, "census;eaten 0 2;", 2, 3);
        GoatDoors lending = Check.told("owner 9 hides 3;owner 7;");
        done(lending, "lent 0 1 4;eaten 0 6;", 1, 1);
        done(lending, "eaten 0 5;eaten 0 1;", 1, 2);
        // What he has borrowed is not his to eat.
        done(lending, "eaten 1 8;", 0, 3);
        done(lending, "eaten 1 7;eaten 1 1;", 1, 4);
        GoatDoors both = Check.told("owner 9 hides 3;owner 7;");
        done(both, "hidden 0 2;lent 0 1 4;eaten 0 4;", 2, 1);
        done(both, "eaten 0 3;", 1, 1);
        Check.due("goats", 6, () -> both.owner(0, 0));
        Check.due("the base stays till a census", 16, () -> both.count(3));
    }

    /** "lent: to the second one, for the next CENSUS (he has so many that are not lent or hidden)". */
    private static void lent() {
        GoatDoors x = Check.told("owner 9 hides 3;owner 7;owner 0;");
        done(x, "lent 0 1 10;", 0, 1);
        Check.due("none is lent", 0, () -> x.owner(0, 3));
        Check.due("none is borrowed", 0, () -> x.owner(1, 4));
        done(x, "lent 0 1 9;", 1, 1);
        done(x, "lent 0 2 1;", 0, 2);
        Check.due("lent", 9, () -> x.owner(0, 3));
        Check.due("borrowed", 9, () -> x.owner(1, 4));
        Check.due("they are his still", 9, () -> x.owner(0, 0));
        // What he has borrowed is not his to lend.
        done(x, "lent 1 2 8;", 0, 3);
        done(x, "lent 1 2 7;lent 1 2 1;", 1, 4);
        done(x, "lent 2 0 1;", 0, 5);
        done(x, "census;", 1, 5);
        for (int owner = 0; owner < 3; owner++) {
            int who = owner;
            Check.due("all comes back", 0, () -> x.owner(who, 3));
            Check.due("nothing is borrowed", 0, () -> x.owner(who, 4));
        }
        Check.due("each is counted once", 16, () -> x.count(3));
        GoatDoors hiding = Check.told("owner 9 hides 3;owner 7;");
        done(hiding, "hidden 0 3;lent 0 1 7;", 1, 1);
        done(hiding, "lent 0 1 2;lent 0 1 4;lent 0 1 1;", 2, 2);
        Check.due("lent together", 6, () -> hiding.owner(0, 3));
        GoatDoors mutual = Check.told("owner 9;owner 7;");
        done(mutual, "lent 0 1 2;lent 1 0 3;", 2, 0);
        Check.due("he lends", 2, () -> mutual.owner(0, 3));
        Check.due("and borrows", 3, () -> mutual.owner(0, 4));
    }

    /** "hidden: so many .., in place of what he hid (no more than he can HIDE, or has not lent)". */
    private static void hidden() {
        GoatDoors x = Check.told("owner 9 hides 3;owner 7;owner 2 hides 5;owner 0 hides 5;");
        done(x, "hidden 0 4;", 0, 1);
        Check.due("none is hidden", 0, () -> x.owner(0, 2));
        done(x, "hidden 0 3;", 1, 1);
        Check.due("as many as he can", 3, () -> x.owner(0, 2));
        done(x, "hidden 0 4;", 0, 2);
        Check.due("as ahead", 3, () -> x.owner(0, 2));
        done(x, "hidden 0 2;", 1, 2);
        Check.due("in place of what he hid", 2, () -> x.owner(0, 2));
        done(x, "hidden 0 0;", 1, 2);
        Check.due("no more", 0, () -> x.owner(0, 2));
        done(x, "hidden 1 1;", 0, 3);
        done(x, "hidden 1 0;", 1, 3);
        done(x, "hidden 2 3;", 0, 4);
        done(x, "hidden 2 2;", 1, 4);
        done(x, "hidden 3 1;", 0, 5);
        done(x, "hidden 3 0;", 1, 5);
        GoatDoors lending = Check.told("owner 9 hides 5;owner 7;");
        done(lending, "lent 0 1 6;hidden 0 4;", 1, 1);
        done(lending, "hidden 0 3;hidden 0 3;hidden 0 4;", 2, 2);
        Check.due("what he has not lent", 3, () -> lending.owner(0, 2));
        done(lending, "lent 0 1 1;", 0, 3);
        done(lending, "hidden 0 2;lent 0 1 1;hidden 0 3;", 2, 4);
        done(lending, "hidden 1 1;", 0, 5);
    }

    /** "census: THE BASE is all GOATS but those hidden; then all that is lent comes back, nothing is hidden". */
    private static void census() {
        GoatDoors x = Check.told(FIVE);
        done(x, "hidden 0 5;hidden 1 5;hidden 2 5;hidden 3 5;hidden 4 5;", 5, 0);
        Check.due("base ahead", 40, () -> x.count(3));
        done(x, "census;", 1, 0);
        Check.due("the most hidden", 15, () -> x.count(3));
        Check.due("goats stay", 40, () -> x.count(4));
        for (int owner = 0; owner < 5; owner++) {
            int who = owner;
            Check.due("nothing is hidden", 0, () -> x.owner(who, 2));
            Check.due("he can hide again", 5, () -> x.owner(who, 1));
        }
        done(x, "census;", 1, 0);
        Check.due("all are counted", 40, () -> x.count(3));
        GoatDoors few = Check.told("owner 5 hides 5;owner 0;");
        done(few, "hidden 0 5;census;", 2, 0);
        Check.due("a base of 0", 0, () -> few.count(3));
        done(few, "hidden 0 4;census;", 2, 0);
        Check.due("a base of 1", 1, () -> few.count(3));
        GoatDoors none = new GoatDoors();
        done(none, "census;", 1, 0);
        Check.due("nobody's base", 0, () -> none.count(3));
    }

    /** "rub: the DOOR is gone (there is one of that number; the numbers of others stay)". */
    private static void rub() {
        GoatDoors x = Check.told(THREE);
        done(x, "rub 3;", 0, 1);
        done(x, "rub 9;", 0, 2);
        done(x, "rub 0;", 1, 2);
        Check.due("doors", 6, () -> x.count(1));
        Check.noSuch("it is gone", () -> x.door(0, 0));
        Check.due("number 1 stays", 2, () -> x.door(1, 10));
        Check.due("number 2 stays", 3, () -> x.door(2, 10));
        done(x, "rub 0;", 0, 3);
        done(x, "rub 2;rub 1;", 2, 3);
        Check.due("no doors", 0, () -> x.count(1));
        done(x, "rub 1;", 0, 4);
        GoatDoors full = Check.told("owner 1;owner 1;" + "door 0 1 #1;".repeat(10));
        done(full, "rub 9;", 1, 0);
        Check.due("the last one is gone", 511, () -> full.count(1));
        done(full, "rub 9;", 0, 1);
    }

    /** "write: a DOOR more, of the least number that there isn't (0 to 9; there is one)". */
    private static void write() {
        GoatDoors x = Check.told("owner 1;owner 1;");
        for (int i = 0; i < 10; i++) {
            int door = i;
            done(x, "write 0 1 #" + i + ";", 1, 0);
            Check.due("doors", (2 << door) - 1, () -> x.count(1));
            Check.due("its figure", door, () -> x.door(door, 10));
        }
        done(x, "write 1 0 #z;", 0, 1);
        Check.due("all ten stay", 1023, () -> x.count(1));
        Check.due("the last one too", 9, () -> x.door(9, 10));
        done(x, "rub 9;write 1 0 #z;write 1 0 #z;", 2, 2);
        Check.due("number 9", 35, () -> x.door(9, 10));
        done(x, "rub 7;rub 3;rub 0;write 1 0 #a;", 4, 2);
        Check.due("number 0", 10, () -> x.door(0, 10));
        done(x, "write 1 0 #bc;", 1, 2);
        Check.due("number 3", 11, () -> x.door(3, 10));
        Check.due("its figures", 2, () -> x.door(3, 2));
        done(x, "write 1 0 #d;write 1 0 #e;", 1, 3);
        Check.due("number 7", 13, () -> x.door(7, 10));
    }

    /** "swap: .. (there are both) .. change places (neither is owed then to who owes it)". */
    private static void swap() {
        String village = "owner 1;owner 1;owner 1;owner 1;";
        GoatDoors x = Check.told(village + "door 0 1 #1;door 2 3 #2;");
        done(x, "swap 0 1;", 1, 0);
        Check.due("by whom 0", 0, () -> x.door(0, 0));
        Check.due("to whom 0", 3, () -> x.door(0, 1));
        Check.due("by whom 1", 2, () -> x.door(1, 0));
        Check.due("to whom 1", 1, () -> x.door(1, 1));
        Check.due("figures stay", 1, () -> x.door(0, 10));
        done(x, "swap 0 2;", 0, 1);
        done(x, "swap 2 0;", 0, 2);
        done(x, "swap 8 9;", 0, 3);
        done(x, "rub 0;swap 0 1;", 1, 4);
        GoatDoors one = Check.told(village + "door 1 2 #1;");
        done(one, "swap 0 1;", 0, 1);
        done(one, "swap 1 0;", 0, 2);
        done(one, "swap 0 9;", 0, 3);
        Check.due("one door of two: to whom, as ahead", 2, () -> one.door(0, 1));
        GoatDoors rubbed = Check.told(village + "door 1 2 #1;door 0 3 #1;");
        done(rubbed, "rub 1;swap 0 1;", 1, 1);
        done(rubbed, "swap 1 0;", 0, 2);
        Check.due("a rubbed one: to whom, as ahead", 2, () -> rubbed.door(0, 1));
        cantSwap(village + "door 0 1 #1;door 1 2 #2;", 1, 2);
        cantSwap(village + "door 1 2 #1;door 0 1 #2;", 2, 1);
        cantSwap(village + "door 0 1 #1;door 1 0 #2;", 1, 0);
        GoatDoors alike = Check.told(village + "door 0 1 #1;door 2 1 #2;");
        done(alike, "swap 0 1;", 1, 0);
        Check.due("owed to the same one", 1, () -> alike.door(0, 1));
        Check.due("owed to the same one", 1, () -> alike.door(1, 1));
        GoatDoors last = Check.told(village + "door 0 1 #1;".repeat(9) + "door 0 2 #1;");
        done(last, "swap 9 0;", 1, 0);
        Check.due("to whom 9", 1, () -> last.door(9, 1));
        Check.due("to whom 0", 2, () -> last.door(0, 1));
    }

    private static void cantSwap(String village, int first, int second) {
        GoatDoors x = Check.told(village);
        done(x, "swap 0 1;", 0, 1);
        done(x, "swap 1 0;", 0, 2);
        Check.due("to whom 0, as ahead", first, () -> x.door(0, 1));
        Check.due("to whom 1, as ahead", second, () -> x.door(1, 1));
    }

    /** Promise 4: "IllegalArgumentException likewise": the tape has not so many, n below 0 (nothing changes). */
    private static void howManyBytes() {
        int[] wrong = {-1, 61, 601, Integer.MAX_VALUE, Integer.MIN_VALUE};
        for (int n : wrong) {
            Twins.stay("days " + n + " of 60", Check.ILLEGAL, x -> x.days(n));
        }
        GoatDoors x = Check.told("owner 1;");
        String text = "census;born 0 1;!   ";
        int[] done = {0, -2, -2, -2, -2, -2, -2, 1, -2, -2, -2, -2, -2, -2, -2, -2, 2, -2, -2, -2, -2};
        for (int n = 0; n <= 20; n++) {
            int many = n;
            Check.feed(x, Check.bytes(text));
            Check.due("the first " + n, done[n], () -> x.days(many));
            Check.due("nothing is left", 0, () -> x.count(6));
        }
        Check.illegal("an empty tape", () -> x.days(1));
        Check.due("nothing of it", 0, () -> x.days(0));
    }

    private static void restored(GoatDoors x, boolean want) {
        Check.due("restore", want ? 1 : 0, () -> x.restore() ? 1 : 0);
    }

    /** Promise 26: "False: there is none": nothing changes then. */
    private static void noImage() {
        restored(new GoatDoors(), false);
        GoatDoors x = Check.told(THREE);
        done(x, "born 0 1;lent 0 1 2;hidden 1 3;rub 1;", 4, 0);
        x.receipt(1, 1, 0);
        restored(x, false);
        Check.due("goats", 10, () -> x.owner(0, 0));
        Check.due("lent", 2, () -> x.owner(0, 3));
        Check.due("borrowed", 2, () -> x.owner(1, 4));
        Check.due("hidden", 3, () -> x.owner(1, 2));
        Check.due("doors", 5, () -> x.count(1));
        Check.due("base", 22, () -> x.count(3));
        Check.due("receipts", 1, () -> x.count(5));
        restored(x, false);
    }

    /** Promise 25 of a new object: an image of nothing is one. */
    private static void imageOfNothing() {
        GoatDoors x = new GoatDoors();
        x.image();
        x.receipt(0, 0, 0);
        restored(x, true);
        Check.due("no receipts", 0, () -> x.count(5));
        restored(x, true);
    }

    /** Promise 25: "in place of another one". */
    private static void latterImage() {
        GoatDoors x = Check.told("owner 1;owner 1;door 0 1 #1;");
        x.image();
        done(x, "born 0 1;rub 0;", 2, 0);
        x.image();
        done(x, "born 0 1;", 1, 0);
        restored(x, true);
        Check.due("goats", 2, () -> x.owner(0, 0));
        Check.due("doors", 0, () -> x.count(1));
        done(x, "born 0 5;", 1, 0);
        restored(x, true);
        Check.due("an image stays when it was restored", 2, () -> x.owner(0, 0));
    }

    /** Promise 25: "GOATS, DOORS, THE BASE, what is lent and hidden, RECEIPTS are kept". */
    private static void whatAnImageKeeps() {
        GoatDoors x = Check.told("owner 9 hides 3;owner 7 hides 5;owner 6;" + "door 0 1 #1a;".repeat(10));
        done(x, "hidden 0 1;census;lent 0 1 2;hidden 1 3;", 4, 0);
        for (int i = 0; i < 12; i++) {
            x.receipt(1023, 10 * (13 + 10), 0);
        }
        x.image();
        done(x, "lent 1 2 1;hidden 0 2;census;born 2 4;eaten 0 3;", 5, 0);
        for (int i = 0; i < 10; i++) {
            done(x, "rub " + i + ";", 1, 0);
        }
        done(x, "write 2 1 #zzzzz;", 1, 0);
        for (int i = 0; i < 12; i++) {
            x.lose();
        }
        x.receipt(1, 0, 3);
        restored(x, true);
        int[] counts = {3, 1023, 0, 21, 22, 12};
        for (int i = 0; i < counts.length; i++) {
            int what = i;
            Check.due("restored: count " + i, counts[i], () -> x.count(what));
        }
        int[][] owners = {{9, 3, 0, 2, 0}, {7, 5, 3, 0, 2}, {6, 0, 0, 0, 0}};
        for (int i = 0; i < 15; i++) {
            int owner = i / 5;
            int what = i % 5;
            Check.due("restored: owner " + owner + ", " + what, owners[owner][what], () -> x.owner(owner, what));
        }
        for (int i = 0; i < 10; i++) {
            int door = i;
            Check.due("restored: by whom " + i, 0, () -> x.door(door, 0));
            Check.due("restored: to whom " + i, 1, () -> x.door(door, 1));
            Check.due("restored: figures " + i, 2, () -> x.door(door, 2));
            Check.due("restored: figure of " + i, 10, () -> x.door(door, 11));
        }
        Check.due("restored: one base fits", 1, () -> x.chalked(0));
        Check.due("restored: base", 13, () -> x.chalked(1));
        Check.due("restored: the row of receipts is full", -1, () -> x.receipt(0, 0, 0));
    }

    /** Promise 25 names no tape, no STATUS, no fault's place: they stay as they are. */
    private static void whatAnImageDoesNotKeep() {
        GoatDoors x = Check.told(THREE);
        x.image();
        done(x, "rub 5;", 0, 1);
        x.receipt(-1, 0, 0);
        Check.due("a fault", -2, () -> Check.days(x, "census !"));
        x.feed(0x6f776e65, 0x7220373b, 0, 0, 0);
        restored(x, true);
        Check.due("refused texts", 1, () -> x.count(7));
        Check.due("days that could not be", 1, () -> x.count(8));
        Check.due("refused receipts", 1, () -> x.count(9));
        Check.due("place", 7, x::fault);
        Check.due("tape", 20, () -> x.count(6));
        Check.due("its bytes", 0, () -> x.village(8));
        Check.due("goats", 7, () -> x.count(4));
    }

    /** Promise 3: "the image (is) gone" with a village, but not with a fault or a call that reads none. */
    private static void imageAndVillages() {
        GoatDoors x = Check.told(THREE);
        x.image();
        done(x, "born 0 1;", 1, 0);
        Check.due("a fault", 1, () -> Check.village(x, "owner 1;!"));
        restored(x, true);
        Check.due("goats", 9, () -> x.owner(0, 0));
        Check.illegal("not so many", () -> x.village(1));
        restored(x, true);
        Check.due("a village of no bytes", 0, () -> x.village(0));
        restored(x, false);
        Check.due("nobody", 0, () -> x.count(0));
        x.image();
        Check.due("another village", 0, () -> Check.village(x, "owner 1;"));
        restored(x, false);
        Check.due("one", 1, () -> x.count(0));
    }
}
