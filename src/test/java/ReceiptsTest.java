/** Promises 16, 17 and 18: receipts, and in how many goats doors were chalked. */
public final class ReceiptsTest {
    public static void main(String[] args) {
        receipts();
        chalked();
        farBases();
        Check.end();
    }

    private static void refused(GoatDoors x, int doors, int sum, int shift) {
        int size = x.count(5);
        int refused = x.count(9);
        Check.due("receipt " + doors + ", " + sum + ", " + shift, -1, () -> x.receipt(doors, sum, shift));
        Check.due("as many", size, () -> x.count(5));
        Check.due("one more refused", refused + 1, () -> x.count(9));
    }

    private static void receipts() {
        GoatDoors x = new GoatDoors();
        refused(x, 1024, 0, 0);
        refused(x, -1, 0, 0);
        refused(x, Integer.MIN_VALUE, 0, 0);
        refused(x, 1, -1, 0);
        refused(x, 1, 100000000, 0);
        refused(x, 1, 0, 21);
        refused(x, 1, 0, -21);
        Check.due("the greatest", 1, () -> x.receipt(1023, 99999999, 20));
        Check.due("none fits", 0, () -> x.chalked(0));
        Check.due("none fits", -1, () -> x.chalked(1));
        Check.due("the least", 2, () -> x.receipt(0, 0, -20));
        for (int i = 3; i <= 12; i++) {
            int size = i;
            Check.due("receipt " + i, size, () -> x.receipt(size, 0, 0));
        }
        refused(x, 1, 0, 0);
        for (int i = 11; i >= 0; i--) {
            int left = i;
            Check.due("lose", left, x::lose);
        }
        Check.due("lose none", -1, x::lose);
        Check.due("lost", 0, () -> x.count(5));
        Check.due("that is not refused", 8, () -> x.count(9));
        Check.due("all fit again", 39, () -> x.chalked(0));
        Check.noSuch("what 2", () -> x.chalked(2));
        Check.noSuch("what -1", () -> x.chalked(-1));
    }

    private static void chalked() {
        GoatDoors x = Check.told("owner 9;owner 9;door 0 1 #12;door 1 0 #5;door 0 1 #0;");
        x.receipt(1, 14, 0);
        Check.due("one base", 1, () -> x.chalked(0));
        Check.due("base", 12, () -> x.chalked(1));
        x.receipt(3, 25, 6);
        Check.due("two doors together", 12, () -> x.chalked(1));
        x.receipt(3, 17, -1);
        Check.due("no base", 0, () -> x.chalked(0));
        x.lose();
        x.receipt(512 + 4, 0, -20);
        Check.due("a door that there isn't", 12, () -> x.chalked(1));
        x.lose();
        x.lose();
        x.lose();
        x.receipt(2, 5, 0);
        Check.due("many bases", 35, () -> x.chalked(0));
        Check.due("the least", 6, () -> x.chalked(1));
        x.lose();
        x.receipt(2, 0, -20);
        Check.due("bases below 0, 0 and void ones", 19 + 4, () -> x.chalked(0));
        Check.due("the least", 2, () -> x.chalked(1));
        x.lose();
        x.receipt(1, 2, -20);
        Check.due("base 1", 1, () -> x.chalked(0));
        Check.due("the least", 21, () -> x.chalked(1));
        Check.days(x, "rub 0;");
        Check.due("the door is gone", 0, () -> x.chalked(0));
    }

    private static void farBases() {
        GoatDoors x = Check.told("owner 9;owner 9;door 0 1 #7dzzz;");
        x.receipt(1, 7 * 12960000 + 13 * 216000 + 35 * 3600 + 35 * 60 + 35, 20);
        Check.due("base 60", 40, () -> x.chalked(1));
        // In base 59 ten such doors are worth 4314198350, which is 19231054 in 32 bits.
        GoatDoors y = Check.told("owner 9;owner 9;" + "door 0 1 #zzzzz;".repeat(10));
        y.receipt(1023, 19231054, 20);
        Check.due("no sum that wraps", 0, () -> y.chalked(0));
    }
}
