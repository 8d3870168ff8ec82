/** The bounds that the document names for the tape and a village's text: terms of part 1, promises 1, 2, 3 and 5. */
public final class VillageBoundsTest {
    private static final String TWO = "owner 1;owner 2;";
    private static final String FIVE = "owner 1;owner 2;owner 3;owner 4;owner 5;";
    private static final String TEN = "door 0 1 #1;".repeat(10);

    public static void main(String[] args) {
        owners();
        goats();
        goatsInAll();
        hides();
        doors();
        twoOwners();
        ownersToldAhead();
        howManyFigures();
        signsOfFigures();
        laws();
        secondLaw();
        digitsOfNumbers();
        longestRows();
        lettersOfWords();
        blanks();
        signsThatAreNone();
        endsTooSoon();
        firstFaultAlongTheText();
        leastFaultOfOneToken();
        longestText();
        newObject();
        feed();
        fullTape();
        bytesOfNumbers();
        howManyBytes();
        restOfTheTape();
        allAnew();
        allStaysWithFault();
        nothingChangesWithoutBytes();
        faultPlace();
        Check.end();
    }

    static void sound(String text) {
        fault(text, 0, -1);
    }

    static void fault(String text, int fault, int place) {
        GoatDoors x = new GoatDoors();
        Check.due("village " + text, fault, () -> Check.village(x, text));
        Check.due("place in " + text, place, x::fault);
        Check.due("refused texts behind " + text, fault == 0 ? 0 : 1, () -> x.count(7));
        Check.due("refused days behind " + text, 0, () -> x.count(8));
        Check.due("tape behind " + text, 0, () -> x.count(6));
    }

    /** "OWNERS 0, 1 .. (at most 5)"; 2: "the first TOKEN of the 6th OWNER". */
    private static void owners() {
        for (int n = 0; n <= 5; n++) {
            GoatDoors x = Check.told("owner 2;".repeat(n));
            int many = n;
            Check.due("owners", many, () -> x.count(0));
            for (int i = 0; i < n; i++) {
                int owner = i;
                Check.due("goats of " + i, 2, () -> x.owner(owner, 0));
            }
            Check.noSuch("behind the last", () -> x.owner(many, 0));
            Check.noSuch("ahead of the first", () -> x.owner(-1, 0));
        }
        fault("owner 2;".repeat(6), 2, 40);
        fault(FIVE + "\n owner", 2, 42);
        fault(FIVE + "owner !", 2, 40);
        fault(FIVE + "owner 21;", 2, 40);
        fault(FIVE + TEN + "law due;owner 1;", 2, 168);
    }

    /** "each with GOATS (0 to 20"; 2: "a NUMBER .. not as told". */
    private static void goats() {
        for (int n = 0; n <= 20; n++) {
            GoatDoors x = Check.told("owner " + n + ";");
            int many = n;
            Check.due("his goats", many, () -> x.owner(0, 0));
            Check.due("all goats", many, () -> x.count(4));
            Check.due("the base is at first all goats", many, () -> x.count(3));
        }
        fault("owner 21;", 2, 6);
        fault("owner 40;", 2, 6);
        fault("owner 999;", 2, 6);
        fault("owner -1;", 1, 6);
    }

    /** "no more than 40 in all"; 2: "GOATS by which all are above 40". */
    private static void goatsInAll() {
        String[] forty = {"owner 20;owner 20;", "owner 20;owner 20;owner 0;", "owner 20;owner 19;owner 1;", "owner 8;".repeat(5)};
        for (String text : forty) {
            GoatDoors x = Check.told(text);
            Check.due("all goats", 40, () -> x.count(4));
            Check.due("the base", 40, () -> x.count(3));
        }
        fault("owner 20;owner 20;owner 1;", 2, 24);
        fault("owner 20;owner 19;owner 2;", 2, 24);
        fault("owner 8;".repeat(4) + "owner 9;", 2, 38);
        fault("owner 20;owner 19;owner 2 hides 6;", 2, 24);
    }

    /** "as many as he can HIDE (0 to 5; 0 without)". */
    private static void hides() {
        for (int n = 0; n <= 5; n++) {
            GoatDoors x = Check.told("owner 3 hides " + n + ";owner 3;");
            int many = n;
            Check.due("he can hide", many, () -> x.owner(0, 1));
            Check.due("without", 0, () -> x.owner(1, 1));
            Check.due("he hides none yet", 0, () -> x.owner(0, 2));
        }
        Check.due("more than he has", 5, () -> Check.told("owner 0 hides 5;").owner(0, 1));
        fault("owner 3 hides 6;", 2, 14);
        fault("owner 3 hides 20;", 2, 14);
        fault("owner 3 hides;", 1, 13);
    }

    /** "DOORS 0, 1 .. (at most 10)"; 2: "the first TOKEN of .. the 11th DOOR". */
    private static void doors() {
        for (int n = 0; n <= 10; n++) {
            GoatDoors x = Check.told(TWO + "door 1 0 #7;".repeat(n));
            int many = n;
            Check.due("doors", (1 << many) - 1, () -> x.count(1));
            for (int i = 0; i < n; i++) {
                int door = i;
                Check.due("figure of door " + i, 7, () -> x.door(door, 10));
            }
            Check.noSuch("behind the last", () -> x.door(many, 0));
            Check.noSuch("ahead of the first", () -> x.door(-1, 0));
        }
        fault(TWO + TEN + "door 0 1 #1;", 2, 136);
        fault(TWO + TEN + "\ndoor", 2, 137);
        fault(TWO + TEN + "door 7 7 #;", 2, 136);
        fault(TWO + TEN + "doors", 1, 136);
    }

    /** 4: "the second OWNER of a DOOR that is the first one". */
    private static void twoOwners() {
        for (int by = 0; by < 5; by++) {
            for (int to = 0; to < 5; to++) {
                String text = FIVE + "door " + by + " " + to + " #1;";
                if (by == to) {
                    fault(text, 4, 47);
                } else {
                    GoatDoors x = Check.told(text);
                    int debtor = by;
                    int lender = to;
                    Check.due("by whom", debtor, () -> x.door(0, 0));
                    Check.due("to whom", lender, () -> x.door(0, 1));
                }
            }
        }
        fault(FIVE + "door 3 003 #1;", 4, 47);
    }

    /** 3: "an OWNER that isn't told ahead". */
    private static void ownersToldAhead() {
        sound("owner 1;owner 1;door 0 1 #1;door 1 0 #1;");
        fault("door 0 1 #1;", 3, 5);
        fault("owner 1;door 0 1 #1;", 3, 15);
        fault("owner 1;door 1 0 #1;", 3, 13);
        fault("owner 1;door 1 1 #1;", 3, 13);
        fault("owner 1;door 0 1 #1;owner 1;", 3, 15);
        fault(TWO + "door 0 2 #1;owner 1;", 3, 23);
        fault(TWO + "door 2 0 #1;owner 1;", 3, 21);
        sound(FIVE + "door 4 3 #1;");
        fault(FIVE + "door 5 3 #1;", 3, 45);
        fault(FIVE + "door 4 5 #1;", 3, 47);
        fault(FIVE + "door 4 999 #1;", 3, 47);
    }

    /** "FIGURES (1 to 5"; 2: "a ROW of more than 5 FIGURES"; 1: "a # alone". */
    private static void howManyFigures() {
        for (int n = 1; n <= 5; n++) {
            GoatDoors x = Check.told(TWO + "door 0 1 #" + "z0a9y".substring(0, n) + ";");
            int many = n;
            Check.due("figures", many, () -> x.door(0, 2));
            int[] want = {35, 0, 10, 9, 34};
            for (int i = 0; i < n; i++) {
                int at = i;
                Check.due("figure " + i, want[i], () -> x.door(0, 10 + at));
            }
            Check.noSuch("behind the last figure", () -> x.door(0, 10 + many));
        }
        fault(TWO + "door 0 1 #;", 1, 25);
        fault(TWO + "door 0 1 #", 1, 25);
        fault(TWO + "door 0 1 # 1;", 1, 25);
        fault(TWO + "door 0 1 ##1;", 1, 25);
        fault(TWO + "door 0 1 #123456;", 2, 25);
        fault(TWO + "door 0 1 #000000;", 2, 25);
        fault(TWO + "door 0 1 #" + "1".repeat(500) + ";", 2, 25);
    }

    /** "each 0 .. 9 or a .. z, which are 10 to 35". */
    private static void signsOfFigures() {
        String signs = "0123456789abcdefghijklmnopqrstuvwxyz";
        for (int i = 0; i < 36; i++) {
            GoatDoors x = Check.told(TWO + "door 0 1 #" + signs.charAt(i) + ";");
            int figure = i;
            Check.due("sign " + signs.charAt(i), figure, () -> x.door(0, 10));
        }
        for (char sign = 0; sign < 256; sign++) {
            boolean blank = sign == 32 || sign == 10;
            if (signs.indexOf(sign) < 0) {
                fault(TWO + "door 0 1 #" + sign + ";", 1, 25);
            }
            if (signs.indexOf(sign) < 0 && !blank && sign != ';') {
                fault(TWO + "door 0 1 #0" + sign + ";", 1, 27);
            }
        }
    }

    /** "A LAW of figures: 0 void, 1 due, 2 greatest (void without)". */
    private static void laws() {
        Check.due("without", 0, () -> Check.told(TWO).count(2));
        String[] laws = {"void", "due", "greatest"};
        for (int i = 0; i < 3; i++) {
            int law = i;
            Check.due(laws[i], law, () -> Check.told("law " + laws[law] + ";" + TWO).count(2));
            Check.due(laws[i] + " told last", law, () -> Check.told(TWO + "law " + laws[law] + ";").count(2));
            fault("law " + laws[i] + "s;", 1, 4);
            fault("law " + laws[i].substring(1) + ";", 1, 4);
        }
        fault("law;", 1, 3);
        fault("law 0;", 1, 4);
        fault("law law;", 1, 4);
    }

    /** 4: "a second 'law'". */
    private static void secondLaw() {
        String[] laws = {"law void;", "law due;", "law greatest;"};
        for (String one : laws) {
            for (String other : laws) {
                fault(one + other, 4, one.length());
                fault(one + FIVE + TEN + other, 4, one.length() + 160);
            }
        }
        fault("law void;law", 4, 9);
        fault("law void;law !", 4, 9);
        fault("law void;laws", 1, 9);
        fault("law law", 1, 4);
    }

    /** "NUMBERS (1 to 3 digits)"; 2: "a NUMBER of 4 digits or more". */
    private static void digitsOfNumbers() {
        sound("owner 7;");
        sound("owner 07;");
        GoatDoors x = Check.told("owner 007 hides 005;owner 020;door 000 001 #1;");
        Check.due("goats", 7, () -> x.owner(0, 0));
        Check.due("hides", 5, () -> x.owner(0, 1));
        Check.due("to whom", 1, () -> x.door(0, 1));
        fault("owner 0007;", 2, 6);
        fault("owner 1 hides 0005;", 2, 14);
        fault(TWO + "door 0000 1 #1;", 2, 21);
        fault(TWO + "door 0 0001 #1;", 2, 23);
        fault("owner " + "0".repeat(500) + ";", 2, 6);
        fault("owner 4294967296;", 2, 6);
        fault("owner 18446744073709551617;", 2, 6);
        fault("owner ;", 1, 6);
    }

    /** "words (a .. z, the longest row)", "ROWS (.. the longest row)". */
    private static void longestRows() {
        fault("ownerowner 1;", 1, 0);
        fault("owner 1hideshides 1;", 1, 7);
        fault("lawdue;", 1, 0);
        fault("o wner 1;", 1, 0);
        fault("owner 1 2;", 1, 8);
        fault("owner 1 hi des 2;", 1, 8);
        sound("owner1hides2;owner3;door0 1#1;law due;");
        fault(TWO + "door 01#1;", 1, 23);
        fault(TWO + "door 0 1#1doors;", 2, 24);
        GoatDoors x = Check.told(TWO + "door 0 1#1door;");
        Check.due("letters behind a figure are figures", 5, () -> x.door(0, 2));
    }

    /** "In quotes is what stands there": no word that is one letter off does. */
    private static void lettersOfWords() {
        String[][] lines = {{"", "owner", " 1;"}, {"owner 1 ", "hides", " 1;"}, {TWO, "door", " 0 1 #1;"}, {"", "law", " due;"},
            {"law ", "void", ";"}, {"law ", "due", ";"}, {"law ", "greatest", ";"}};
        for (String[] line : lines) {
            sound(line[0] + line[1] + line[2]);
            for (String word : almost(line[1])) {
                fault(line[0] + word + line[2], 1, line[0].length());
            }
        }
    }

    /** A word with each letter another one, gone, and twice. */
    static java.util.List<String> almost(String word) {
        java.util.List<String> words = new java.util.ArrayList<>();
        for (int i = 0; i < word.length(); i++) {
            String ahead = word.substring(0, i);
            String behind = word.substring(i + 1);
            words.add(ahead + (char) (word.charAt(i) == 'z' ? 'y' : word.charAt(i) + 1) + behind);
            words.add(ahead + (char) (word.charAt(i) == 'a' ? 'b' : word.charAt(i) - 1) + behind);
            words.add(ahead + behind);
            words.add(ahead + word.charAt(i) + word.charAt(i) + behind);
        }
        return words;
    }

    /** "blanks (32, 10) between them, which count for nothing". */
    private static void blanks() {
        GoatDoors x = Check.told(" \n owner \n 3\nhides  2 \n;\n\nowner\n4;door\n1 0\n\n#1a ; law\ndue\n;\n ");
        Check.due("owners", 2, () -> x.count(0));
        Check.due("hides", 2, () -> x.owner(0, 1));
        Check.due("figures", 2, () -> x.door(0, 2));
        Check.due("law", 1, () -> x.count(2));
        sound("");
        sound(" ");
        sound("\n".repeat(600));
        fault("\n".repeat(599) + ";", 1, 599);
    }

    /** 1: "a TOKEN that can't stand there, or is none": each sign but the blanks, where a line begins. */
    private static void signsThatAreNone() {
        for (char sign = 0; sign < 256; sign++) {
            boolean blank = sign == 32 || sign == 10;
            fault("owner 1;" + sign + "owner 2;", blank ? 0 : 1, blank ? -1 : 8);
            fault(sign + "", blank ? 0 : 1, blank ? -1 : 0);
        }
        char[] around = {'/', ':', '`', '{', '@', 'A', 'Z', '[', '"', '$', 9, 11, 13, 31, 33, 127, 128, 138, 160, 255, 0};
        for (char sign : around) {
            fault("owner 1" + sign + ";", 1, 7);
            fault("owner " + sign + "1;", 1, 6);
            fault("owner" + sign + "1;", 1, 5);
        }
    }

    /** 1: "the text's length where it ends too soon". */
    private static void endsTooSoon() {
        String[] texts = {"owner", "owner 1", "owner 1 hides", "owner 1 hides 1", "law", "law due",
            TWO + "door", TWO + "door 0", TWO + "door 0 1", TWO + "door 0 1 #1", TWO + "door 0 1 #12345"};
        for (String text : texts) {
            fault(text, 1, text.length());
            fault(text + " ", 1, text.length() + 1);
            fault(text + " \n\n ", 1, text.length() + 4);
        }
    }

    /** "FAULTS, the first along the text, at a TOKEN's first byte". */
    private static void firstFaultAlongTheText() {
        fault("owner 21 !", 2, 6);
        fault("owner 1 hides 6 door", 2, 14);
        fault("owner ! 21", 1, 6);
        fault("door 0 0 #;", 3, 5);
        fault(TWO + "door 0 0 #123456", 4, 23);
        fault(TWO + "door 0 2 #123456", 3, 23);
        fault(TWO + "door 0 1 #123456 !", 2, 25);
        fault("law due; law ! owner 21;", 4, 9);
        fault("owner 1;;owner 21;", 1, 8);
        fault("owner 1; 7777", 1, 9);
        fault("owner 1; #1234567", 1, 9);
    }

    /** "of one TOKEN the least": what can't stand there is 1, whatever else it were. */
    private static void leastFaultOfOneToken() {
        fault("owner #123456;", 1, 6);
        fault("owner 1 0000;", 1, 8);
        fault("owner 1 hides #123456;", 1, 14);
        fault("owner 1 hides 1 9999;", 1, 16);
        fault("law 0000;", 1, 4);
        fault("law #123456;", 1, 4);
        fault("law due 0000;", 1, 8);
        fault(TWO + "door #123456 1 #1;", 1, 21);
        fault(TWO + "door 0 1 0000;", 1, 25);
        fault(TWO + "door 0 1 #1 #123456;", 1, 28);
        fault("owner 1;owner 1;owner 1;owner 1;owner 1 owner 1;", 1, 40);
        fault(TWO + TEN.substring(0, TEN.length() - 1) + " door 0 1 #1;", 1, 136);
        fault("law due law due;", 1, 8);
        // An owner of 4 digits is no number, and none that is told: 2 is less than 3; of 4 digits and the first one: 2, not 4.
        fault("door 0000 1 #1;", 2, 5);
        fault(TWO + "door 9999 1 #1;", 2, 21);
        fault(TWO + "door 1 0001 #1;", 2, 23);
        // Goats that are too many both ways.
        fault("owner 20;owner 20;owner 21;", 2, 24);
    }

    /** "A TEXT of at most 600 bytes tells it": all of them are read. */
    private static void longestText() {
        String text = FIVE + TEN + " ".repeat(600 - 160 - 14) + "law\n\ngreatest;";
        Check.due("bytes", 600, text::length);
        GoatDoors x = Check.told(text);
        Check.due("law", 2, () -> x.count(2));
        Check.due("owners", 5, () -> x.count(0));
        Check.due("doors", 1023, () -> x.count(1));
        fault(text.substring(0, 599) + " ", 1, 600);
        fault(text.substring(0, 599) + "x", 1, 591);
        fault(text.substring(0, 599) + "!", 1, 599);
        fault("x".repeat(600), 1, 0);
        fault("owner " + "9".repeat(594), 2, 6);
    }

    /** Promise 1: "No OWNERS, no DOORS". */
    private static void newObject() {
        GoatDoors x = new GoatDoors();
        for (int what = 0; what < 10; what++) {
            int i = what;
            Check.due("new: count " + what, 0, () -> x.count(i));
        }
        for (int i = -1; i <= 10; i++) {
            int at = i;
            Check.noSuch("new: owner " + i, () -> x.owner(at, 0));
            Check.noSuch("new: best " + i, () -> x.best(at, 0));
            Check.noSuch("new: span " + i, () -> x.span(at, 0, 40));
            Check.noSuch("new: hedge " + i, () -> x.hedge(at, 0, 40, false));
            Check.noSuch("new: door " + i, () -> x.door(at, 0));
            Check.noSuch("new: worth " + i, () -> x.worth(at, 10));
            Check.noSuch("new: voids " + i, () -> x.voids(at, 0));
            Check.noSuch("new: mean " + i, () -> x.mean(at, 0, 0, 0));
            Check.noSuch("new: pay " + i, () -> x.pay(at, 0, 0));
            Check.noSuch("new: tax " + i, () -> x.tax(at));
            Check.noSuch("new: sum " + i, () -> x.sum(at, at, -1));
        }
        for (int i = 0; i < 5; i++) {
            int at = i;
            Check.noSuch("new: rests " + i, () -> x.rests(at));
        }
        Check.due("new: the row of nobody rests", 1, () -> x.rests(-1));
        Check.due("new: fault", -1, x::fault);
        Check.due("new: couples", 0, () -> x.safer(0, 40, 0));
        Check.due("new: first couple", -1, () -> x.safer(0, 40, 1));
        Check.due("new: rings", 0, () -> x.safer(0, 40, 2));
        Check.due("new: first ring", -1, () -> x.safer(0, 40, 3));
        Check.due("new: trade", 0, () -> x.trade(40, 0));
        Check.due("new: misread", 0, () -> x.trade(40, 1));
        Check.due("new: all bases fit", 39, () -> x.chalked(0));
        Check.due("new: no receipt", -1, x::lose);
        Check.due("new: no image", 0, () -> x.restore() ? 1 : 0);
        Check.due("new: alike", 1, () -> x.alike(1, 1));
    }

    /** Promise 2: "how many it has". */
    private static void feed() {
        GoatDoors x = new GoatDoors();
        for (int i = 1; i <= 30; i++) {
            int many = 20 * i;
            Check.due("feed " + i, many, () -> x.feed(-1, 0, 1, Integer.MAX_VALUE, Integer.MIN_VALUE));
            Check.due("tape", many, () -> x.count(6));
        }
        for (int i = 0; i < 3; i++) {
            Check.due("a full tape", -1, () -> x.feed(0, 0, 0, 0, 0));
            Check.due("tape", 600, () -> x.count(6));
        }
        Check.due("it is empty then", -2, () -> x.days(600));
        Check.due("feed anew", 20, () -> x.feed(0, 0, 0, 0, 0));
    }

    /** Promise 2: "NONE, and none come, if it would have more than 600". */
    private static void fullTape() {
        String text = " ".repeat(580) + "owner 3;owner 4;    ";
        GoatDoors x = new GoatDoors();
        Check.feed(x, Check.bytes(text));
        Check.due("tape", 600, () -> x.count(6));
        Check.due("none come", -1, () -> x.feed(0x21212121, 0x21212121, 0x21212121, 0x21212121, 0x21212121));
        Check.due("the first bytes and the last ones stay", 0, () -> x.village(600));
        Check.due("owners", 2, () -> x.count(0));
        Check.due("goats", 7, () -> x.count(4));
        GoatDoors almost = new GoatDoors();
        Check.feed(almost, Check.bytes(" ".repeat(580)));
        Check.due("the last twenty still come", 600, () -> almost.feed(0x6f776e65, 0x7220373b, 0x20202020, 0x20202020, 0x6f776e65));
        Check.due("and are read", 0, () -> almost.village(588));
        Check.due("goats", 7, () -> almost.count(4));
    }

    /** Promise 2: "of each number the highest first". */
    private static void bytesOfNumbers() {
        GoatDoors x = new GoatDoors();
        x.feed(0x6f776e65, 0x72203132, 0x20686964, 0x65732034, 0x3b202020);
        Check.due("owner 12 hides 4;", 0, () -> x.village(17));
        Check.due("goats", 12, () -> x.owner(0, 0));
        Check.due("hides", 4, () -> x.owner(0, 1));
        int[] places = {0, 4, 8, 12, 16};
        for (int number = 0; number < 5; number++) {
            for (int at = 0; at < 4; at++) {
                int[] n = {0x20202020, 0x20202020, 0x20202020, 0x20202020, 0x20202020};
                n[number] |= 0xff << 24 - 8 * at;
                Check.due("feed", 20, () -> x.feed(n[0], n[1], n[2], n[3], n[4]));
                Check.due("byte 255", 1, () -> x.village(20));
                Check.due("its place", places[number] + at, x::fault);
            }
        }
    }

    /** Promise 3: "IllegalArgumentException: the tape has not so many, n below 0". */
    private static void howManyBytes() {
        for (int fed = 0; fed <= 600; fed += 20) {
            GoatDoors x = new GoatDoors();
            Check.feed(x, Check.bytes(" ".repeat(fed)));
            int n = fed;
            int[] wrong = {n + 1, n + 20, 601, -1, -20, Integer.MAX_VALUE, Integer.MIN_VALUE};
            for (int many : wrong) {
                Check.illegal("village " + many + " of " + n, () -> x.village(many));
                Check.illegal("days " + many + " of " + n, () -> x.days(many));
            }
            Check.due("tape", n, () -> x.count(6));
            Check.due("all of it", 0, () -> x.village(n));
            Check.due("it is empty then", 0, () -> x.count(6));
            Check.due("and nothing of it", 0, () -> x.village(0));
            Check.illegal("no more", () -> x.village(1));
            Check.illegal("no more days", () -> x.days(1));
        }
    }

    /** Promises 3 and 4: "The tape's first n bytes (it is empty then)". */
    private static void restOfTheTape() {
        String text = "owner 3;owner 4;!!!!";
        int[] owners = {0, -1, -1, -1, -1, -1, -1, -1, 1, -1, -1, -1, -1, -1, -1, -1, 2, -1, -1, -1, -1};
        // A word that is cut off can't stand there; behind it the text ends too soon.
        int[] places = {-1, 0, 0, 0, 0, 5, 6, 7, -1, 8, 8, 8, 8, 13, 14, 15, -1, 16, 16, 16, 16};
        for (int n = 0; n <= 20; n++) {
            GoatDoors x = new GoatDoors();
            Check.feed(x, Check.bytes(text));
            int many = n;
            int told = owners[n];
            Check.due("the first " + n, told < 0 ? 1 : 0, () -> x.village(many));
            Check.due("owners of the first " + n, Math.max(0, told), () -> x.count(0));
            Check.due("place of the fault", places[n], x::fault);
            Check.due("nothing is left", 0, () -> x.count(6));
            Check.due("the next bytes come first", 20, () -> x.feed(0x6f776e65, 0x7220393b, 0, 0, 0));
            Check.due("and are read", 0, () -> x.village(8));
            Check.due("goats", 9, () -> x.count(4));
        }
    }

    /** Promise 3: "all anew", "RECEIPTS, what is lent and hidden, the image are gone (STATUS stays)". */
    private static void allAnew() {
        String[] texts = {"", "owner 9;owner 8 hides 5;owner 7;owner 6;", TWO + TEN};
        int[] owners = {0, 4, 2};
        int[] doors = {0, 0, 1023};
        int[] goats = {0, 30, 3};
        for (int i = 0; i < texts.length; i++) {
            int at = i;
            GoatDoors x = Twins.busy();
            Check.due("a village anew", 0, () -> Check.village(x, texts[at]));
            int[] counts = {owners[i], doors[i], 0, goats[i], goats[i], 0, 0, 1, 2, 1};
            for (int j = 0; j < counts.length; j++) {
                int what = j;
                Check.due("anew: count " + what, counts[j], () -> x.count(what));
            }
            for (int owner = 0; owner < owners[i]; owner++) {
                int who = owner;
                for (int what = 2; what <= 4; what++) {
                    int told = what;
                    Check.due("anew: owner " + who + ", " + told, 0, () -> x.owner(who, told));
                }
            }
            Check.due("anew: all bases fit", 39, () -> x.chalked(0));
            Check.due("anew: no receipt is left", -1, x::lose);
            Check.due("anew: the image is gone", 0, () -> x.restore() ? 1 : 0);
            Check.due("anew: no fault", -1, x::fault);
        }
    }

    /** Promise 3: "or the FAULT (all stays)"; the tape is empty then, and STATUS 0 counts it. */
    private static void allStaysWithFault() {
        Twins.stayWith("owner 1;owner ;", "fault 1", "1", x -> x.village(15), "count 6", "0", "count 7", "2",
                "fault", "14", "image: count 6", "0", "image: count 7", "2", "image: fault", "14");
        Twins.stayWith("owner 1;owner 41;", "fault 2", "2", x -> x.village(17), "count 6", "0", "count 7", "2",
                "fault", "14", "image: count 6", "0", "image: count 7", "2", "image: fault", "14");
        Twins.stayWith("owner 1;owner 1;door 0 2 #1;", "fault 3", "3", x -> x.village(28), "count 6", "0",
                "count 7", "2", "fault", "23", "image: count 6", "0", "image: count 7", "2", "image: fault", "23");
        Twins.stayWith("law void;owner 1;owner 1;law due;", "fault 4", "4", x -> x.village(33), "count 6", "0",
                "count 7", "2", "fault", "25", "image: count 6", "0", "image: count 7", "2", "image: fault", "25");
        Twins.stayWith(FIVE + TEN + "law void;door", "a fault behind it all", "2", x -> x.village(173), "count 6", "0",
                "count 7", "2", "fault", "169", "image: count 6", "0", "image: count 7", "2", "image: fault", "169");
    }

    /** Promise 3: "IllegalArgumentException: .. (nothing changes)". */
    private static void nothingChangesWithoutBytes() {
        int[] wrong = {-1, 61, 601, Integer.MAX_VALUE, Integer.MIN_VALUE};
        for (int n : wrong) {
            Twins.stay("village " + n + " of 60", Check.ILLEGAL, x -> x.village(n));
        }
    }

    /** Promise 5: "The place of the latest village()'s, days()'s FAULT; NONE without". */
    private static void faultPlace() {
        GoatDoors x = new GoatDoors();
        Check.due("new", -1, x::fault);
        Check.due("a fault at the first byte", 1, () -> Check.village(x, "!"));
        Check.due("place 0", 0, x::fault);
        Check.due("another one", 2, () -> Check.village(x, "owner 21;"));
        Check.due("place 6", 6, x::fault);
        Check.due("asked again", 6, x::fault);
        Check.illegal("a call that reads nothing", () -> x.village(1));
        Check.due("place 6 still", 6, x::fault);
        Check.illegal("a call that reads no days", () -> x.days(-1));
        Check.due("place 6 still", 6, x::fault);
        Check.due("days with a fault", -2, () -> Check.days(x, "census"));
        Check.due("place 6 of the days", 6, x::fault);
        Check.due("days with another fault", -4, () -> Check.days(x, "born 0 1;"));
        Check.due("place 5", 5, x::fault);
        Check.due("a sound village", 0, () -> Check.village(x, "owner 1;"));
        Check.due("none", -1, x::fault);
        Check.due("days with a fault", -2, () -> Check.days(x, " sing;"));
        Check.due("place 1", 1, x::fault);
        Check.due("sound days that can't be are no fault", 0, () -> Check.days(x, "eaten 0 2;"));
        Check.due("none", -1, x::fault);
        Check.due("a village with a fault", 1, () -> Check.village(x, "  x"));
        Check.due("place 2", 2, x::fault);
        Check.due("days of no bytes", 0, () -> x.days(0));
        Check.due("none", -1, x::fault);
    }
}
