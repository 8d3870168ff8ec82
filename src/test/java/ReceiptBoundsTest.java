/** The bounds that the document names for receipts: terms of part 5, promises 16 to 18. */
public final class ReceiptBoundsTest {
    public static void main(String[] args) {
        setsOfDoors();
        sums();
        shifts();
        twelve();
        refusedReceiptsChangeNothing();
        lose();
        basesThatFit();
        sumsThatFit();
        shiftedBases();
        doorsThatThereAre();
        what();
        Check.end();
    }

    private static void taken(int doors, int sum, int shift) {
        GoatDoors x = new GoatDoors();
        Check.due("receipt " + doors + ", " + sum + ", " + shift, 1, () -> x.receipt(doors, sum, shift));
        Check.due("receipts", 1, () -> x.count(5));
        Check.due("none is refused", 0, () -> x.count(9));
    }

    private static void refused(int doors, int sum, int shift) {
        GoatDoors x = new GoatDoors();
        Check.due("receipt " + doors + ", " + sum + ", " + shift, -1, () -> x.receipt(doors, sum, shift));
        Check.due("receipts", 0, () -> x.count(5));
        Check.due("it is refused", 1, () -> x.count(9));
        Check.due("all bases fit", 39, () -> x.chalked(0));
    }

    /** Promise 16: "NONE (STATUS 2): .. bits above 9". */
    private static void setsOfDoors() {
        taken(0, 0, 0);
        for (int bit = 0; bit < 10; bit++) {
            taken(1 << bit, 0, 0);
        }
        taken(1023, 0, 0);
        for (int bit = 10; bit < 32; bit++) {
            refused(1 << bit, 0, 0);
            refused(1 << bit | 1023, 0, 0);
        }
        refused(-1, 0, 0);
        refused(Integer.MIN_VALUE, 0, 0);
        refused(Integer.MAX_VALUE, 0, 0);
    }

    /** "a sum (0 to 99999999)". */
    private static void sums() {
        taken(1, 0, 0);
        taken(1, 1, 0);
        taken(1, 99999999, 0);
        refused(1, 100000000, 0);
        refused(1, -1, 0);
        refused(1, Integer.MAX_VALUE, 0);
        refused(1, Integer.MIN_VALUE, 0);
    }

    /** "a SHIFT (-20 to 20)". */
    private static void shifts() {
        for (int shift = -20; shift <= 20; shift++) {
            taken(1, 0, shift);
        }
        refused(1, 0, 21);
        refused(1, 0, -21);
        refused(1, 0, Integer.MAX_VALUE);
        refused(1, 0, Integer.MIN_VALUE);
        refused(-1, -1, 21);
    }

    /** "RECEIPTS (at most 12)": "A RECEIPT: how many there are". */
    private static void twelve() {
        GoatDoors x = new GoatDoors();
        for (int i = 1; i <= 12; i++) {
            int many = i;
            Check.due("receipt " + i, many, () -> x.receipt(1, 0, 0));
            Check.due("receipts", many, () -> x.count(5));
        }
        for (int i = 1; i <= 3; i++) {
            int many = i;
            Check.due("one more", -1, () -> x.receipt(1, 0, 0));
            Check.due("receipts", 12, () -> x.count(5));
            Check.due("refused", many, () -> x.count(9));
        }
        Check.due("a wrong one counts once", -1, () -> x.receipt(-1, -1, 99));
        Check.due("refused", 4, () -> x.count(9));
        Check.due("one is lost", 11, x::lose);
        Check.due("another one comes", 12, () -> x.receipt(1, 0, 0));
        Check.due("and no more", -1, () -> x.receipt(1, 0, 0));
    }

    /** All stays but STATUS 2, be the receipt wrong or the row full. */
    private static void refusedReceiptsChangeNothing() {
        int[][] wrong = {{1024, 0, 0}, {-1, 0, 0}, {1, -1, 0}, {1, 100000000, 0}, {1, 0, 21}, {1, 0, -21}};
        for (int[] r : wrong) {
            Twins.stay("receipt " + r[0] + ", " + r[1] + ", " + r[2], "-1", x -> x.receipt(r[0], r[1], r[2]),
                    "count 9", "2", "image: count 9", "2", "tape: count 9", "2");
        }
        GoatDoors full = Check.told("owner 9;owner 9;door 0 1 #12;");
        for (int i = 0; i < 12; i++) {
            full.receipt(1, 16 + i, i);
        }
        Check.due("one more", -1, () -> full.receipt(1, 1, 1));
        Check.due("the base", 14, () -> full.chalked(1));
        for (int i = 11; i >= 0; i--) {
            int left = i;
            Check.due("one fits", 1, () -> full.chalked(0));
            Check.due("lose", left, full::lose);
        }
        Check.due("all fit", 39, () -> full.chalked(0));
    }

    /** Promise 17: "The last RECEIPT is lost: how many are left. NONE: there are none." */
    private static void lose() {
        GoatDoors x = Check.told("owner 9;owner 9;door 0 1 #12;");
        Check.due("there are none", -1, x::lose);
        Check.due("receipts", 0, () -> x.count(5));
        Check.due("that is no refused receipt", 0, () -> x.count(9));
        x.receipt(1, 14, 0);
        x.receipt(1, 15, 0);
        Check.due("both don't fit", 0, () -> x.chalked(0));
        Check.due("the last one is lost", 1, x::lose);
        Check.due("the first one is left", 12, () -> x.chalked(1));
        Check.due("it is lost", 0, x::lose);
        Check.due("there are none", -1, x::lose);
        Check.due("again", -1, x::lose);
        Check.due("a receipt comes first again", 1, () -> x.receipt(1, 15, 0));
        Check.due("base", 13, () -> x.chalked(1));
    }

    /** "CHALKED: bases b of 2 to 40 that fit": neither 1 nor 41. */
    private static void basesThatFit() {
        for (int i = 1; i <= 41; i++) {
            GoatDoors x = Check.told("owner 9;owner 9;door 0 1 #100;");
            int base = i;
            boolean fits = base >= 2 && base <= 40;
            x.receipt(1, base == 1 ? 3 : base * base, 0);
            Check.due("bases for " + i, fits ? 1 : 0, () -> x.chalked(0));
            Check.due("least for " + i, fits ? base : -1, () -> x.chalked(1));
        }
        GoatDoors all = new GoatDoors();
        Check.due("without receipts all fit", 39, () -> all.chalked(0));
        Check.due("the least", 2, () -> all.chalked(1));
        GoatDoors some = Check.told("owner 9;owner 9;door 0 1 #z;door 0 1 #1;");
        some.receipt(2, 1, 0);
        Check.due("#1", 39, () -> some.chalked(0));
        some.receipt(1, 35, 0);
        Check.due("#z", 5, () -> some.chalked(0));
        Check.due("the least", 36, () -> some.chalked(1));
        Check.due("it is lost", 1, some::lose);
        some.receipt(1, 0, 0);
        Check.due("where it is void", 34, () -> some.chalked(0));
        Check.due("the least", 2, () -> some.chalked(1));
    }

    /** The least and the greatest sum, each with one base that it fits, and sums that only wrapped would fit. */
    private static void sumsThatFit() {
        GoatDoors x = Check.told("owner 9;owner 9;door 0 1 #w5vef;door 0 1 #zzzzz;");
        x.receipt(1, 99999999, 2);
        Check.due("base 42 is 40 and 2", 40, () -> x.chalked(1));
        Check.due("it is lost", 0, x::lose);
        x.receipt(1, 99999999, 20);
        Check.due("and 22 and 20", 22, () -> x.chalked(1));
        Check.due("one fits", 1, () -> x.chalked(0));
        Check.due("it is lost", 0, x::lose);
        x.receipt(1, 99999998, 2);
        Check.due("one less fits none", 0, () -> x.chalked(0));
        GoatDoors ten = Check.told("owner 9;owner 9;" + "door 0 1 #zzzzz;".repeat(10));
        // In base 59 they are worth 4314198350 together, 19231054 in 32 bits.
        ten.receipt(1023, 19231054, 20);
        Check.due("no sum wraps", 0, () -> ten.chalked(0));
        Check.due("it is lost", 0, ten::lose);
        ten.receipt(1023, 0, 0);
        Check.due("in bases to 35 they are void", 34, () -> ten.chalked(0));
    }

    /** "in the base that b and SHIFT make together (0, if that is below 0)". */
    private static void shiftedBases() {
        for (int i = -20; i <= 20; i++) {
            int shift = i;
            // Worth 0 in base 0, 5 in base 1, b to the power of 4 else.
            GoatDoors x = Check.told("owner 9;owner 9;door 0 1 #10000;");
            x.receipt(1, 0, shift);
            int below = Math.max(0, -shift - 1);
            Check.due("bases of 0 or below 0, shift " + i, below, () -> x.chalked(0));
            Check.due("the least, shift " + i, below > 0 ? 2 : -1, () -> x.chalked(1));
            x.lose();
            x.receipt(1, 5, shift);
            Check.due("base 1, shift " + i, shift < 0 ? 1 - shift : -1, () -> x.chalked(1));
            x.lose();
            int top = 40 + shift;
            x.receipt(1, top * top * top * top, shift);
            Check.due("the highest base, shift " + i, 40, () -> x.chalked(1));
            Check.due("it alone, shift " + i, 1, () -> x.chalked(0));
        }
        GoatDoors due = Check.told("owner 9;owner 9;door 0 1 #z;law due;");
        due.receipt(1, 35, 20);
        Check.due("35 from base 35 on, up to 60", 40 - 15 + 1, () -> due.chalked(0));
        Check.due("the least", 15, () -> due.chalked(1));
    }

    /** "the WORTHS of its DOORS (those that there are)". */
    private static void doorsThatThereAre() {
        GoatDoors x = Check.told("owner 9;owner 9;door 0 1 #10;door 0 1 #20;");
        x.receipt(1023, 3 * 12, 0);
        Check.due("ten doors, of which there are two", 12, () -> x.chalked(1));
        Check.due("one is rubbed", 1, () -> Check.days(x, "rub 0;"));
        Check.due("the other one", 18, () -> x.chalked(1));
        Check.due("both are", 1, () -> Check.days(x, "rub 1;"));
        Check.due("none is worth so much", 0, () -> x.chalked(0));
        Check.due("it is lost", 0, x::lose);
        x.receipt(1023, 0, -1);
        Check.due("but 0 in every base, 1 among them", 39, () -> x.chalked(0));
        Check.due("another door", 1, () -> Check.days(x, "write 0 1 #10;"));
        Check.due("is of the receipt at once", 0, () -> x.chalked(0));
        x.receipt(0, 1, 0);
        Check.due("no doors are never worth 1", 0, () -> x.chalked(0));
    }

    /** Promise 18: "how many bases fit (what 0), the least (1; NONE). NoSuchElementException: another what." */
    private static void what() {
        GoatDoors x = new GoatDoors();
        x.receipt(0, 1, 0);
        Check.due("none fits", 0, () -> x.chalked(0));
        Check.due("so there is no least", -1, () -> x.chalked(1));
        int[] none = {-1, 2, 3, Integer.MIN_VALUE, Integer.MAX_VALUE};
        for (int what : none) {
            Check.noSuch("what " + what, () -> x.chalked(what));
        }
    }
}
