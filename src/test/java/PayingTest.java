/** Promises 19 to 24: to void, the mean, the day to pay, trade, tax, and a child's sum. */
public final class PayingTest {
    public static void main(String[] args) {
        voids();
        means();
        days();
        trades();
        taxes();
        sums();
        Check.end();
    }

    private static void voids() {
        GoatDoors x = Check.told("owner 9;owner 2;owner 1;door 0 1 #a1;door 0 1 #1;door 1 0 #c;door 1 2 #00;door 1 2 #2;");
        Check.due("one goat less than ten", 2, () -> x.voids(0, 0));
        Check.due("who has two", 3, () -> x.voids(0, 1));
        Check.due("base 2 reads 1", -1, () -> x.voids(1, 0));
        Check.due("nobody could", -1, () -> x.voids(1, 1));
        Check.due("void already", 1, () -> x.voids(2, 0));
        Check.due("all could", 7, () -> x.voids(2, 1));
        Check.due("worth 0 in any base", 1, () -> x.voids(3, 0));
        Check.due("down to base 2", 10, () -> x.voids(4, 0));
        Check.due("none has so many", 0, () -> x.voids(4, 1));
        Check.noSuch("what 2", () -> x.voids(0, 2));
        Check.noSuch("what -1", () -> x.voids(0, -1));
        Check.noSuch("door 5", () -> x.voids(5, 0));
        GoatDoors two = Check.told("owner 2;owner 0;door 0 1 #0;");
        Check.due("base 2", -1, () -> two.voids(0, 0));
        GoatDoors one = Check.told("owner 1;owner 0;door 0 1 #0;");
        Check.due("base 1", -1, () -> one.voids(0, 1));
        Check.noSuch("what 2 in base 1", () -> one.voids(0, 2));
        GoatDoors three = Check.told("owner 3;owner 0;door 0 1 #2;");
        Check.due("base 3", 1, () -> three.voids(0, 0));
        GoatDoors due = Check.told("owner 9;owner 0;door 0 1 #8;law due;");
        Check.due("law due", -1, () -> due.voids(0, 0));
        Check.due("law due", -1, () -> due.voids(0, 1));
        Check.noSuch("law due, what 3", () -> due.voids(0, 3));
        GoatDoors greatest = Check.told("owner 9;owner 0;door 0 1 #0;law greatest;");
        Check.due("law greatest", -1, () -> greatest.voids(0, 0));
    }

    private static void means() {
        GoatDoors x = Check.told("owner 9;owner 2;door 0 1 #100;door 1 0 #b;");
        Check.due("day 0", 121, () -> x.mean(0, 0, 3, 7));
        Check.due("day 1", (3 * 144 + 2 * 100 + 5 * 121) / 10, () -> x.mean(0, 1, 3, 2));
        Check.due("day 2, always up", 169, () -> x.mean(0, 2, 10, 0));
        Check.due("day 8, always down", 9, () -> x.mean(0, 8, 0, 10));
        Check.due("day 8, as many", 121, () -> x.mean(0, 8, 0, 0));
        Check.due("day 2", (25 * 169 + 50 * 121 + 25 * 81) / 100, () -> x.mean(0, 2, 5, 5));
        Check.due("void at first", 5, () -> x.mean(1, 1, 5, 5));
        Check.illegal("day 9", () -> x.mean(0, 9, 0, 0));
        Check.illegal("day -1", () -> x.mean(0, -1, 0, 0));
        Check.illegal("up 11", () -> x.mean(0, 1, 11, 0));
        Check.illegal("up -1", () -> x.mean(0, 1, -1, 5));
        Check.illegal("down 11", () -> x.mean(0, 1, 0, 11));
        Check.illegal("down -1", () -> x.mean(0, 1, 5, -1));
        Check.illegal("both 11", () -> x.mean(0, 1, 5, 6));
        Check.illegal("far off", () -> x.mean(0, 1, Integer.MAX_VALUE, Integer.MAX_VALUE));
        Check.noSuch("no such door, first", () -> x.mean(2, 9, 11, 11));
        GoatDoors low = Check.told("owner 1;owner 0;door 0 1 #1111;");
        Check.due("never fewer than 0", 0, () -> low.mean(0, 8, 0, 10));
        // Up and up: base 3; up and down, down and up: base 1; down and down: base 0.
        Check.due("down and up again", (25 * 40 + 50 * 4) / 100, () -> low.mean(0, 2, 5, 5));
        GoatDoors high = Check.told("owner 20;owner 20;door 0 1 #zzzzz;");
        Check.due("base 48", 35 * (5308416 + 110592 + 2304 + 48 + 1), () -> high.mean(0, 8, 10, 0));
    }

    private static void days() {
        GoatDoors x = Check.told("owner 9;owner 2;door 0 1 #100;door 1 0 #7;door 1 0 #0;door 0 1 #b;");
        Check.due("always down", 8, () -> x.pay(0, 0, 10));
        Check.due("always up", 0, () -> x.pay(0, 10, 0));
        Check.due("as many", 0, () -> x.pay(0, 0, 0));
        Check.due("the first of like ones", 4, () -> x.pay(1, 0, 10));
        Check.due("by the mean cut down", 4, () -> x.pay(1, 0, 1));
        Check.due("worth 0", 0, () -> x.pay(2, 5, 5));
        Check.due("void at first", 0, () -> x.pay(3, 5, 5));
        Check.illegal("up 11", () -> x.pay(0, 11, 0));
        Check.illegal("up -1", () -> x.pay(0, -1, 0));
        Check.illegal("down 11", () -> x.pay(0, 0, 11));
        Check.illegal("down -1", () -> x.pay(0, 0, -1));
        Check.illegal("both 11", () -> x.pay(0, 6, 5));
        Check.noSuch("no such door, first", () -> x.pay(4, 6, 5));
    }

    private static void trades() {
        GoatDoors x = Check.told("owner 9;owner 1;door 0 1 #10;door 1 0 #c;");
        // Of bases 10 to 20 door 0 is best in 15, but door 1 is worth 0 in 10 and 12 in 20.
        Check.due("base", 8, () -> x.trade(20, 0));
        Check.due("misread", 12, () -> x.trade(20, 1));
        Check.due("alike", 10, () -> x.trade(10, 0));
        Check.due("alike", 0, () -> x.trade(10, 1));
        Check.due("base 0", 5, () -> x.trade(0, 0));
        Check.due("misread from base 0", 5, () -> x.trade(0, 1));
        GoatDoors high = Check.told("owner 20;owner 20;door 0 1 #10;");
        Check.due("base 40", 40, () -> high.trade(40, 0));
        Check.due("between 0 and 40", 20, () -> high.trade(0, 0));
        Check.noSuch("what 2", () -> x.trade(5, 2));
        Check.noSuch("what -1, first", () -> x.trade(41, -1));
        Check.illegal("c 41", () -> x.trade(41, 0));
        Check.illegal("c -1", () -> x.trade(-1, 1));
    }

    private static void taxes() {
        GoatDoors x = Check.told("owner 9;owner 1;door 0 1 #10;door 1 0 #11;door 0 1 #a;door 0 1 #0;door 1 0 #99999;");
        Check.due("10", 1, () -> x.tax(0));
        Check.due("11", 2, () -> x.tax(1));
        Check.due("a, by void", 0, () -> x.tax(2));
        Check.due("0", 0, () -> x.tax(3));
        Check.due("99999", 10000, () -> x.tax(4));
        Check.noSuch("door 5", () -> x.tax(5));
        Check.noSuch("door -1", () -> x.tax(-1));
        GoatDoors due = Check.told("owner 3;owner 0;door 0 1 #a;law due;");
        Check.due("a, by due", 1, () -> due.tax(0));
        GoatDoors greatest = Check.told("owner 3;owner 0;door 0 1 #1z;law greatest;");
        Check.due("1z, by greatest", 2, () -> greatest.tax(0));
    }

    private static void sum(GoatDoors x, int a, int b, int carries, int... figures) {
        String what = "sum " + a + ", " + b;
        Check.due(what, figures.length, () -> x.sum(a, b, -1));
        Check.due(what + " carries", carries, () -> x.sum(a, b, -2));
        for (int i = 0; i < figures.length; i++) {
            int at = i;
            Check.due(what + " figure " + i, figures[i], () -> x.sum(a, b, at));
        }
        Check.noSuch(what + " behind the last", () -> x.sum(a, b, figures.length));
        Check.noSuch(what + " -3", () -> x.sum(a, b, -3));
    }

    private static void sums() {
        GoatDoors x = Check.told("owner 9;owner 3;law due;door 0 1 #9b;door 1 0 #1;door 0 1 #zzzzz;door 0 1 #000;door 1 0 #00012;");
        sum(x, 0, 1, 1, 10, 0);
        sum(x, 1, 0, 1, 10, 0);
        sum(x, 0, 0, 2, 1, 7, 10);
        sum(x, 2, 2, 5, 1, 11, 11, 11, 11, 10);
        sum(x, 2, 1, 5, 1, 0, 0, 0, 0, 0);
        sum(x, 3, 3, 0, 0);
        sum(x, 3, 4, 0, 1, 2);
        sum(x, 1, 3, 0, 1);
        Check.noSuch("far off", () -> x.sum(0, 1, Integer.MIN_VALUE));
        Check.noSuch("far off", () -> x.sum(0, 1, Integer.MAX_VALUE));
        Check.noSuch("no such first door", () -> x.sum(5, 0, -1));
        Check.noSuch("no such second door", () -> x.sum(0, 5, -1));
        Check.days(x, "eaten 0 9;eaten 1 1;census;");
        sum(x, 2, 1, 5, 1, 0, 0, 0, 0, 0);
        sum(x, 1, 1, 1, 1, 0);
        Check.days(x, "eaten 1 1;census;");
        Check.illegal("base 1", () -> x.sum(0, 1, -1));
        Check.illegal("base 1, ahead of no such figure", () -> x.sum(0, 1, 99));
        Check.noSuch("base 1, behind no such door", () -> x.sum(0, 5, 99));
        Check.days(x, "eaten 1 1;census;");
        Check.illegal("base 0", () -> x.sum(0, 1, 0));
    }
}
