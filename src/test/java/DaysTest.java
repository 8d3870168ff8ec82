/** Promises 4, 5, 7 (goats), 25 and 26: days that are done, that can't be, faults, images. */
public final class DaysTest {
    private static final String THREE = "owner 5 hides 3;owner 10;owner 8 hides 5;door 0 1 #1;door 1 2 #2;door 2 0 #3;";

    public static void main(String[] args) {
        births();
        feasts();
        lending();
        hiding();
        census();
        doors();
        swaps();
        faults();
        faultsDoNothing();
        images();
        Check.end();
    }

    private static void done(GoatDoors x, String text, int done, int refused) {
        Check.due("days " + text, done, () -> Check.days(x, text));
        Check.due("refused behind " + text, refused, () -> x.count(8));
        Check.due("fault behind " + text, -1, x::fault);
        Check.due("tape behind " + text, 0, () -> x.count(6));
    }

    private static void births() {
        GoatDoors x = Check.told(THREE);
        done(x, "born 0 17;", 1, 0);
        Check.due("goats of one above 20", 22, () -> x.owner(0, 0));
        Check.due("all goats", 40, () -> x.count(4));
        Check.due("the base stays", 23, () -> x.count(3));
        done(x, "born 1 1;born 0 1;", 0, 1);
        Check.due("all goats stay", 40, () -> x.count(4));
        done(x, "eaten 1 2;born 1 3;eaten 0 1;", 1, 2);
        Check.due("done till one can't be", 38, () -> x.count(4));
    }

    private static void feasts() {
        GoatDoors x = Check.told(THREE);
        done(x, "hidden 0 2;lent 0 1 2;eaten 0 2;", 2, 1);
        done(x, "eaten 0 1;", 1, 1);
        Check.due("goats", 4, () -> x.owner(0, 0));
        done(x, "eaten 1 11;", 0, 2);
        done(x, "eaten 1 10;", 1, 2);
        done(x, "eaten 1 1;", 0, 3);
        Check.due("borrowed ones can't be eaten", 2, () -> x.owner(1, 4));
    }

    private static void lending() {
        GoatDoors x = Check.told(THREE);
        done(x, "lent 0 1 2;lent 0 2 3;", 2, 0);
        Check.due("lent", 5, () -> x.owner(0, 3));
        Check.due("borrowed by 1", 2, () -> x.owner(1, 4));
        Check.due("borrowed by 2", 3, () -> x.owner(2, 4));
        Check.due("goats stay his", 5, () -> x.owner(0, 0));
        done(x, "lent 0 1 1;", 0, 1);
        done(x, "lent 1 0 11;", 0, 2);
        done(x, "lent 1 0 10;", 1, 2);
        done(x, "hidden 2 5;lent 2 0 4;", 1, 3);
        done(x, "lent 2 0 3;", 1, 3);
        done(x, "census;", 1, 3);
        for (int owner = 0; owner < 3; owner++) {
            int who = owner;
            Check.due("nothing hidden", 0, () -> x.owner(who, 2));
            Check.due("nothing lent", 0, () -> x.owner(who, 3));
            Check.due("nothing borrowed", 0, () -> x.owner(who, 4));
        }
        Check.due("base", 18, () -> x.count(3));
    }

    private static void hiding() {
        GoatDoors x = Check.told(THREE);
        done(x, "hidden 0 3;hidden 0 2;", 2, 0);
        Check.due("in place of what he hid", 2, () -> x.owner(0, 2));
        done(x, "hidden 0 4;", 0, 1);
        done(x, "hidden 1 1;", 0, 2);
        done(x, "hidden 1 0;", 1, 2);
        done(x, "lent 0 1 3;hidden 0 3;hidden 0 2;", 1, 3);
        done(x, "hidden 0 2;", 1, 3);
        Check.due("still hidden", 2, () -> x.owner(0, 2));
        done(x, "hidden 0 0;", 1, 3);
        Check.due("hidden no more", 0, () -> x.owner(0, 2));
    }

    private static void census() {
        GoatDoors x = Check.told(THREE);
        done(x, "hidden 0 3;hidden 2 5;born 1 2;", 3, 0);
        Check.due("base ahead", 23, () -> x.count(3));
        done(x, "census;", 1, 0);
        Check.due("base", 17, () -> x.count(3));
        Check.due("goats", 25, () -> x.count(4));
        done(x, "census;", 1, 0);
        Check.due("base of all", 25, () -> x.count(3));
        GoatDoors none = new GoatDoors();
        done(none, "census;census ;", 2, 0);
    }

    private static void doors() {
        GoatDoors x = Check.told(THREE);
        done(x, "rub 1;", 1, 0);
        Check.due("doors", 5, () -> x.count(1));
        Check.noSuch("rubbed", () -> x.door(1, 0));
        done(x, "rub 1;", 0, 1);
        done(x, "rub 9;", 0, 2);
        done(x, "write 2 1 #zy;write 1 0 #54321;", 2, 2);
        Check.due("doors", 15, () -> x.count(1));
        Check.due("by whom", 2, () -> x.door(1, 0));
        Check.due("to whom", 1, () -> x.door(1, 1));
        Check.due("figures", 2, () -> x.door(1, 2));
        Check.due("figure", 34, () -> x.door(1, 11));
        Check.due("figures", 5, () -> x.door(3, 2));
        Check.due("figure", 1, () -> x.door(3, 14));
        done(x, "write 0 1 #1;write 0 1 #1;write 0 1 #1;write 0 1 #1;write 0 1 #1;write 0 1 #1;write 0 1 #1;", 6, 3);
        Check.due("ten doors", 1023, () -> x.count(1));
        done(x, "rub 9;rub 0;write 0 1 #7;", 3, 3);
        Check.due("the least number", 511, () -> x.count(1));
    }

    private static void swaps() {
        GoatDoors x = Check.told("owner 1;owner 1;owner 1;owner 1;door 0 1 #1;door 0 2 #2;door 2 3 #3;door 3 1 #4;");
        done(x, "swap 0 1;", 1, 0);
        Check.due("to whom 0", 2, () -> x.door(0, 1));
        Check.due("to whom 1", 1, () -> x.door(1, 1));
        Check.due("by whom 0", 0, () -> x.door(0, 0));
        done(x, "swap 0 2;", 0, 1);
        done(x, "swap 2 0;", 0, 2);
        done(x, "swap 2 3;", 0, 3);
        done(x, "swap 1 3;", 1, 3);
        Check.due("owed to one", 1, () -> x.door(1, 1));
        done(x, "swap 1 4;", 0, 4);
        done(x, "swap 4 1;", 0, 5);
        done(x, "rub 1;swap 1 3;", 1, 6);
    }

    private static void fault(String text, int fault, int place) {
        GoatDoors x = Check.told(THREE);
        Check.due("days " + text, -1 - fault, () -> Check.days(x, text));
        Check.due("place in " + text, place, x::fault);
        Check.due("refused texts", 1, () -> x.count(7));
        Check.due("refused days", 0, () -> x.count(8));
        Check.due("tape", 0, () -> x.count(6));
    }

    private static void faults() {
        fault("born", 1, 4);
        fault("born 0", 1, 6);
        fault("born 0 1", 1, 8);
        fault("born 0 1 1;", 1, 9);
        fault("borne 0 1;", 1, 0);
        fault("owner 1;", 1, 0);
        fault(";", 1, 0);
        fault("census 1;", 1, 7);
        fault("census;;", 1, 7);
        fault("rub;", 1, 3);
        fault("rub #1;", 1, 4);
        fault("write 0 1 2;", 1, 10);
        fault("write 0 1 #;", 1, 10);
        fault("swap 0;", 1, 6);
        fault("lent 0 1;", 1, 8);
        fault("hidden 0;", 1, 8);
        fault("eaten 0;", 1, 7);
        fault("born 0 0;", 2, 7);
        fault("eaten 0 0;", 2, 8);
        fault("lent 0 1 0;", 2, 9);
        fault("born 0 21;", 2, 7);
        fault("hidden 0 21;", 2, 9);
        fault("born 0 0001;", 2, 7);
        fault("born 0000 1;", 2, 5);
        fault("rub 0000;", 2, 4);
        fault("write 0 1 #111111;", 2, 10);
        fault("born 3 1;", 3, 5);
        fault("eaten 999 1;", 3, 6);
        fault("lent 0 3 1;", 3, 7);
        fault("lent 3 3 1;", 3, 5);
        fault("hidden 3 0;", 3, 7);
        fault("write 3 0 #1;", 3, 6);
        fault("write 0 3 #1;", 3, 8);
        fault("rub 10;", 3, 4);
        fault("swap 10 0;", 3, 5);
        fault("swap 0 10;", 3, 7);
        fault("lent 1 1 1;", 4, 7);
        fault("write 1 1 #1;", 4, 8);
        fault("swap 9 9;", 4, 7);
        fault("swap 9 09;", 4, 7);
        fault("rub 9;swap 8 7;born 0 20;born 0 20;hidden 1 20;x", 1, 47);
    }

    private static void faultsDoNothing() {
        GoatDoors x = Check.told(THREE);
        Check.due("a fault behind sound days", -2, () -> Check.days(x, "born 0 1;rub 0;census;sing;"));
        Check.due("goats", 23, () -> x.count(4));
        Check.due("base", 23, () -> x.count(3));
        Check.due("doors", 7, () -> x.count(1));
        Check.due("fault", 22, x::fault);
        Check.illegal("not so many", () -> x.days(1));
        Check.due("fault as ahead", 22, x::fault);
        Check.due("sound days", 1, () -> Check.days(x, "census;"));
        Check.due("no fault", -1, x::fault);
    }

    private static void images() {
        GoatDoors x = Check.told(THREE + "law due;");
        done(x, "lent 0 1 2;hidden 2 4;census;lent 0 1 1;hidden 2 3;", 5, 0);
        x.receipt(1, 2, 3);
        x.image();
        done(x, "born 0 3;eaten 1 2;census;rub 1;write 2 1 #abc;write 0 1 #abc;swap 0 3;rub 0;", 8, 0);
        x.lose();
        x.receipt(2, 0, 0);
        x.receipt(2, 0, 0);
        x.receipt(-2, 0, 0);
        x.feed(1, 2, 3, 4, 5);
        for (int i = 0; i < 2; i++) {
            Check.due("restore", 1, () -> x.restore() ? 1 : 0);
            long[] counts = {3, 7, 1, 19, 23, 1, 20, 0, 0, 1};
            for (int j = 0; j < counts.length; j++) {
                int what = j;
                Check.due("restored: count " + j, counts[j], () -> x.count(what));
            }
            Check.due("restored: goats", 5, () -> x.owner(0, 0));
            Check.due("restored: lent", 1, () -> x.owner(0, 3));
            Check.due("restored: borrowed", 1, () -> x.owner(1, 4));
            Check.due("restored: hidden", 3, () -> x.owner(2, 2));
            Check.due("restored: door 1", 2, () -> x.door(1, 1));
            Check.due("restored: figures", 1, () -> x.door(1, 2));
            Check.due("restored: door 0", 1, () -> x.door(0, 1));
            Check.due("restored: receipt", 0, () -> x.chalked(0));
        }
        x.village(0);
        Check.due("gone with the village", 0, () -> x.restore() ? 1 : 0);
        x.image();
        Check.due("an image of nothing", 1, () -> x.restore() ? 1 : 0);
        GoatDoors y = Check.told("owner 1;");
        y.image();
        done(y, "born 0 1;", 1, 0);
        y.image();
        done(y, "born 0 1;", 1, 0);
        y.restore();
        Check.due("the latter image", 2, () -> y.owner(0, 0));
    }
}
