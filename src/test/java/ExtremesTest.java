/** Each call with numbers at and beyond each bound, asked of the class and of the model, in villages empty, busy and full. */
public final class ExtremesTest {
    private static final int[] EDGES = {Integer.MIN_VALUE, Integer.MIN_VALUE + 1, Integer.MIN_VALUE + 9, Integer.MIN_VALUE + 10,
        -1024, -601, -41, -21, -20, -3, -2, -1, 0, 1, 2, 3, 4, 5, 6, 7, 8, 9, 10, 11, 12, 13, 14, 15, 16, 20, 21, 31, 32, 33, 39, 40,
        41, 60, 61, 600, 601, 1023, 1024, 9999, 10000, 99999999, 100000000, (1 << 30) - 1, 1 << 30, Integer.MAX_VALUE - 1,
        Integer.MAX_VALUE};
    /** The edges of small numbers, where three of them are asked together. */
    private static final int[] FEW = {Integer.MIN_VALUE, -2, -1, 0, 1, 4, 5, 8, 9, 10, 11, 39, 40, 41, Integer.MAX_VALUE};

    private static final String TEN = "door 0 1 #zzzzz;door 1 2 #2a;door 2 3 #105;door 3 4 #00000;door 4 0 #1;door 0 2 #10;"
            + "door 1 3 #9;door 2 4 #z;door 3 0 #100;door 4 1 #11111;";
    private static final String[] VILLAGES = {"", "owner 0 hides 5;", "owner 1;owner 0;door 0 1 #2;", "owner 2;owner 0 hides 1;door 1 0 #10;",
        "owner 8 hides 5;".repeat(5) + TEN, "owner 20 hides 2;owner 20;owner 0;owner 0;owner 0;law due;" + TEN,
        "owner 3 hides 3;owner 3;owner 3 hides 1;owner 3;owner 1;law greatest;" + TEN};

    /** An object is used for at most 512 calls: then one goes on with another that was told the same. */
    private GoatDoors x;
    private Model model;
    private int calls;
    private final String text;

    private ExtremesTest(String text) {
        this.text = text;
        tell();
    }

    private void tell() {
        x = new GoatDoors();
        model = new Model();
        Check.village(x, text);
        for (int i = 0; i < text.length(); i += 20) {
            byte[] part = Check.bytes((text + " ".repeat(20)).substring(i, i + 20));
            model.feed(part);
        }
        model.village(text.length());
        x.receipt(3, 12, 1);
        model.receipt(3, 12, 1);
        calls = 60;
    }

    public static void main(String[] args) {
        for (String text : VILLAGES) {
            ExtremesTest t = new ExtremesTest(text);
            t.ofOne();
            t.ofTwo();
            t.ofThree();
            t.receipts();
        }
        Check.end();
    }

    private interface Ask {
        long of(GoatDoors x, Model model, boolean ours);
    }

    private void ask(String call, Ask asked) {
        if (calls == 512) {
            tell();
        }
        calls++;
        String due = Check.outcome(() -> asked.of(x, model, false));
        Check.same(text + ": " + call, due, Check.outcome(() -> asked.of(x, model, true)));
    }

    private void ofOne() {
        for (int a : EDGES) {
            ask("count " + a, (x, m, ours) -> ours ? x.count(a) : m.count(a));
            ask("rests " + a, (x, m, ours) -> ours ? x.rests(a) : m.rests(a));
            ask("chalked " + a, (x, m, ours) -> ours ? x.chalked(a) : m.chalked(a));
            ask("tax " + a, (x, m, ours) -> ours ? x.tax(a) : m.tax(a));
        }
    }

    private void ofTwo() {
        for (int a : EDGES) {
            for (int b : EDGES) {
                String ab = " " + a + ", " + b;
                ask("owner" + ab, (x, m, ours) -> ours ? x.owner(a, b) : m.owner(a, b));
                ask("door" + ab, (x, m, ours) -> ours ? x.door(a, b) : m.door(a, b));
                ask("worth" + ab, (x, m, ours) -> ours ? x.worth(a, b) : m.worth(a, b));
                ask("best" + ab, (x, m, ours) -> ours ? x.best(a, b) : m.best(a, b));
                ask("alike" + ab, (x, m, ours) -> ours ? x.alike(a, b) : m.alike(a, b));
                ask("voids" + ab, (x, m, ours) -> ours ? x.voids(a, b) : m.voids(a, b));
                ask("trade" + ab, (x, m, ours) -> ours ? x.trade(a, b) : m.trade(a, b));
            }
        }
    }

    private void ofThree() {
        for (int a : FEW) {
            for (int b : FEW) {
                for (int c : FEW) {
                    String abc = " " + a + ", " + b + ", " + c;
                    ask("span" + abc, (x, m, ours) -> ours ? x.span(a, b, c) : m.span(a, b, c));
                    ask("sum" + abc, (x, m, ours) -> ours ? x.sum(a, b, c) : m.sum(a, b, c));
                    if (c < 0 || c > 3 || a >= 8 && a <= b && b - a < 3) {
                        ask("safer" + abc, (x, m, ours) -> ours ? x.safer(a, b, c) : m.safer(a, b, c));
                    }
                    // The model walks all ways that goats can go, so it is asked of some days only.
                    ask("mean" + abc, (x, m, ours) -> ours ? x.mean(a, b > 5 ? 9 : b, c, 1) : m.mean(a, b > 5 ? 9 : b, c, 1));
                    ask("mean with down" + abc, (x, m, ours) -> ours ? x.mean(a, 1, b, c) : m.mean(a, 1, b, c));
                    if (b < 0 || b > 10 || c < 0 || c > 10) {
                        ask("pay" + abc, (x, m, ours) -> ours ? x.pay(a, b, c) : m.pay(a, b, c));
                    }
                    if (a < 0 || a > 4 || b < 0 || c > 40 || b > c || b == c && b == 40) {
                        ask("hedge" + abc, (x, m, ours) -> ours ? x.hedge(a, b, c, true) : m.hedge(a, b, c, true));
                    }
                }
            }
        }
    }

    private void receipts() {
        for (int a : EDGES) {
            ask("receipt: doors " + a, (x, m, ours) -> ours ? x.receipt(a, 1, 2) : m.receipt(a, 1, 2));
            ask("lose", (x, m, ours) -> ours ? x.lose() : m.lose());
            ask("receipt: sum " + a, (x, m, ours) -> ours ? x.receipt(1, a, 2) : m.receipt(1, a, 2));
            ask("chalked", (x, m, ours) -> ours ? x.chalked(0) : m.chalked(0));
            ask("receipt: shift " + a, (x, m, ours) -> ours ? x.receipt(1, 0, a) : m.receipt(1, 0, a));
            ask("refused", (x, m, ours) -> ours ? x.count(9) : m.count(9));
        }
    }
}
