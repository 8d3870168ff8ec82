import java.util.Arrays;
import java.util.Random;

/** Random runs of calls, each asked of the class and of the model. The seeds are fixed, so runs are always the same. */
public final class ModelTest {
    private static final String SIGNS = "0123456789abcdefghijklmnopqrstuvwxyz";
    private static final int[] ODD = {-1, -2, 41, 99, Integer.MAX_VALUE, Integer.MIN_VALUE, 1 << 30, 10, 5, 2000};

    private final Random random;
    private final GoatDoors x = new GoatDoors();
    private final Model model = new Model();
    private final String name;
    private int calls;

    private ModelTest(int seed) {
        random = new Random(seed);
        name = "seed " + seed;
    }

    public static void main(String[] args) {
        for (int seed = 0; seed < 1500; seed++) {
            new ModelTest(seed).run();
        }
        Check.end();
    }

    private int below(int n) {
        return random.nextInt(n);
    }

    /** A number of 0 to n - 1, or sometimes one that is wrong. */
    private int about(int n) {
        return below(12) == 0 ? ODD[below(ODD.length)] : below(n);
    }

    private void ask(String call, Check.Call ours, Check.Call theirs) {
        calls++;
        Check.same(name + ": " + call, Check.outcome(theirs), Check.outcome(ours));
    }

    private void run() {
        tell(villageText(), true);
        while (calls < 500) {
            switch (below(8)) {
                case 0:
                    tell(below(6) == 0 ? villageText() : daysText(), false);
                    break;
                case 1:
                    state();
                    break;
                case 2:
                    receipts();
                    break;
                default:
                    questions();
            }
            if (below(100) == 0) {
                tell(villageText(), true);
            }
        }
    }

    private String row() {
        StringBuilder b = new StringBuilder("#");
        int top = below(3) == 0 ? 36 : 1 + below(12);
        int length = below(40) == 0 ? 6 : 1 + below(below(2) == 0 ? 2 : 5);
        for (int i = 0; i < length; i++) {
            b.append(SIGNS.charAt(below(top)));
        }
        return b.toString();
    }

    private String villageText() {
        StringBuilder b = new StringBuilder();
        int owners = below(30) == 0 ? 6 : 2 + below(4);
        for (int i = 0; i < owners; i++) {
            b.append("owner ").append(below(below(20) == 0 ? 25 : 9));
            b.append(below(2) == 0 ? ";" : " hides " + below(below(20) == 0 ? 8 : 6) + ";");
        }
        int doors = below(30) == 0 ? 11 : below(11);
        for (int i = 0; i < doors; i++) {
            int by = below(owners);
            int to = below(40) == 0 ? below(7) : (by + 1 + below(owners - 1)) % owners;
            b.append("door ").append(by).append(' ').append(to).append(' ').append(row()).append(';');
            if (below(20) == 0) {
                b.append("law due;");
            }
        }
        b.append(new String[] {"", "", "law void;", "law due;", "law greatest;"}[below(5)]);
        return spoil(b.toString());
    }

    private String daysText() {
        StringBuilder b = new StringBuilder();
        int days = below(7);
        for (int i = 0; i < days; i++) {
            b.append(day()).append(below(5) == 0 ? " ;\n" : ";");
        }
        return spoil(b.toString());
    }

    private String day() {
        int owners = Math.max(2, model.count(0));
        int a = below(40) == 0 ? below(8) : below(owners);
        int b = below(40) == 0 ? below(8) : (a + 1 + below(owners - 1)) % owners;
        int d = below(10);
        int e = below(40) == 0 ? below(12) : (d + 1 + below(9)) % 10;
        switch (below(9)) {
            case 0:
                return "born " + a + " " + below(8);
            case 1:
                return "eaten " + a + " " + (1 + below(4));
            case 2:
                return "lent " + a + " " + b + " " + (1 + below(4));
            case 3:
            case 4:
                return "hidden " + a + " " + below(5);
            case 5:
                return "rub " + d;
            case 6:
                return "write " + a + " " + b + " " + row();
            case 7:
                return "swap " + d + " " + e;
            default:
                return "census";
        }
    }

    /** Now and then a sign of a text is another one, is gone, or comes twice. */
    private String spoil(String text) {
        if (text.isEmpty() || below(4) != 0) {
            return text;
        }
        int at = below(text.length());
        String signs = " \n;#0123456789abeghilnorstuwz!A\t" + (char) 255 + (char) 0;
        String mid = below(3) == 0 ? "" : "" + signs.charAt(below(signs.length()));
        return text.substring(0, at) + mid + text.substring(at + below(2));
    }

    private void tell(String text, boolean village) {
        byte[] bytes = Check.bytes(text.length() > 590 ? text.substring(0, 590) : text);
        byte[] padded = Arrays.copyOf(bytes, (bytes.length + 19) / 20 * 20);
        for (int i = 0; i < padded.length; i += 20) {
            byte[] part = Arrays.copyOfRange(padded, i, i + 20);
            ask("feed", () -> feed(part), () -> model.feed(part));
        }
        int n = below(15) == 0 ? bytes.length + below(60) - 30 : bytes.length;
        if (village || below(20) == 0) {
            ask("village " + text + " of " + n, () -> x.village(n), () -> model.village(n));
        } else {
            ask("days " + text + " of " + n, () -> x.days(n), () -> model.days(n));
        }
        ask("fault of " + text, x::fault, model::fault);
        if (model.count(6) > 500) {
            ask("days 0", () -> x.days(0), () -> model.days(0));
        }
    }

    private int feed(byte[] part) {
        int[] n = new int[5];
        for (int i = 0; i < 20; i++) {
            n[i / 4] = n[i / 4] << 8 | part[i] & 255;
        }
        return x.feed(n[0], n[1], n[2], n[3], n[4]);
    }

    private void state() {
        for (int i = -1; i <= 10; i++) {
            int what = i;
            ask("count " + what, () -> x.count(what), () -> model.count(what));
        }
        int owner = about(5);
        for (int i = -1; i <= 9; i++) {
            int what = i;
            ask("owner " + owner + ", " + what, () -> x.owner(owner, what), () -> model.owner(owner, what));
        }
        int door = about(10);
        for (int i = -1; i <= 15; i++) {
            int what = i;
            ask("door " + door + ", " + what, () -> x.door(door, what), () -> model.door(door, what));
        }
        if (below(3) == 0) {
            x.image();
            model.image();
        } else if (below(2) == 0) {
            ask("restore", () -> x.restore() ? 1 : 0, () -> model.restore() ? 1 : 0);
        }
    }

    /** Receipts mostly of what doors are worth in some base, so that it fits. */
    private void receipts() {
        int base = 2 + below(39);
        for (int i = 0; i < 1 + below(3); i++) {
            int shift = below(8) == 0 ? about(30) : below(5) - 2;
            int doors = below(10) == 0 ? about(1024) : 1 << below(10) | 1 << below(10);
            long worth = 0;
            for (int d = 0; d < 10; d++) {
                boolean there = (model.count(1) >> d & 1) != 0;
                int b = Math.max(0, Math.min(40, base + shift));
                worth += there && (doors >> d & 1) != 0 ? model.worth(d, b) : 0;
            }
            int sum = below(10) == 0 ? about(100) : (int) worth;
            ask("receipt", () -> x.receipt(doors, sum, shift), () -> model.receipt(doors, sum, shift));
            ask("chalked 0", () -> x.chalked(0), () -> model.chalked(0));
            ask("chalked 1", () -> x.chalked(1), () -> model.chalked(1));
        }
        int what = about(2);
        ask("chalked " + what, () -> x.chalked(what), () -> model.chalked(what));
        for (int i = 0; i < below(5); i++) {
            ask("lose", x::lose, model::lose);
        }
    }

    private void questions() {
        int o = about(5);
        int d = about(10);
        int e = about(10);
        int what = about(2);
        int a = about(38);
        int b = below(3) == 0 ? about(41) : Math.min(40, a + below(4));
        boolean owing = below(2) == 0;
        switch (below(11)) {
            case 0:
                ask("worth " + d + ", " + a, () -> x.worth(d, a), () -> model.worth(d, a));
                break;
            case 1:
                ask("best " + o + ", " + what, () -> x.best(o, what), () -> model.best(o, what));
                break;
            case 2:
                ask("span " + o + ", " + a + ", " + b, () -> x.span(o, a, b), () -> model.span(o, a, b));
                break;
            case 3:
                ask("rests -1", () -> x.rests(-1), () -> model.rests(-1));
                ask("rests " + o, () -> x.rests(o), () -> model.rests(o));
                break;
            case 4:
                int w = about(10000);
                int bases = below(2) == 0 ? 1 << below(32) : about(1 << 30);
                ask("alike " + w + ", " + bases, () -> x.alike(w, bases), () -> model.alike(w, bases));
                break;
            case 5:
                if (below(4) == 0) {
                    ask("hedge " + o + ", " + a + ", " + b, () -> x.hedge(o, a, b, owing), () -> model.hedge(o, a, b, owing));
                }
                break;
            case 6:
                int four = about(4);
                ask("safer " + a + ", " + b + ", " + four, () -> x.safer(a, b, four), () -> model.safer(a, b, four));
                break;
            case 7:
                ask("voids " + d + ", " + what, () -> x.voids(d, what), () -> model.voids(d, what));
                ask("tax " + d, () -> x.tax(d), () -> model.tax(d));
                break;
            case 8:
                walks(d);
                break;
            case 9:
                ask("trade " + a + ", " + what, () -> x.trade(a, what), () -> model.trade(a, what));
                break;
            default:
                int i = about(8) - 2;
                ask("sum " + d + ", " + e + ", " + i, () -> x.sum(d, e, i), () -> model.sum(d, e, i));
        }
    }

    private void walks(int d) {
        int up = about(11);
        int down = about(Math.max(1, 11 - Math.min(10, up)));
        int day = about(6);
        ask("mean " + d + ", " + day + ", " + up + ", " + down,
                () -> x.mean(d, day, up, down), () -> model.mean(d, day, up, down));
        if (below(20) == 0) {
            ask("pay " + d + ", " + up + ", " + down, () -> x.pay(d, up, down), () -> model.pay(d, up, down));
        }
    }
}
