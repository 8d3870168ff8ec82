import java.math.BigInteger;
import java.util.ArrayList;
import java.util.Arrays;
import java.util.List;
import java.util.NoSuchElementException;
import java.util.TreeMap;
import java.util.regex.Matcher;
import java.util.regex.Pattern;

/** The document once more, slow and plain, to be asked beside the class: no code is shared with it. */
final class Model {
    static final class Owner {
        int goats;
        int hides;
        int hidden;
        int lent;
        int borrowed;
    }

    static final class Door {
        int by;
        int to;
        String figures;
    }

    static final class State {
        List<Owner> owners = new ArrayList<>();
        TreeMap<Integer, Door> doors = new TreeMap<>();
        List<int[]> receipts = new ArrayList<>();
        int base;
        String law = "void";

        State copy() {
            State c = new State();
            for (Owner o : owners) {
                Owner n = new Owner();
                n.goats = o.goats;
                n.hides = o.hides;
                n.hidden = o.hidden;
                n.lent = o.lent;
                n.borrowed = o.borrowed;
                c.owners.add(n);
            }
            doors.forEach((k, d) -> c.doors.put(k, makeDoor(d.by, d.to, d.figures)));
            receipts.forEach(r -> c.receipts.add(r.clone()));
            c.base = base;
            c.law = law;
            return c;
        }

        int goats() {
            return owners.stream().mapToInt(o -> o.goats).sum();
        }
    }

    static Door makeDoor(int by, int to, String figures) {
        Door d = new Door();
        d.by = by;
        d.to = to;
        d.figures = figures;
        return d;
    }

    /** A fault found in a text. */
    static final class Fault extends Exception {
        private static final long serialVersionUID = 1L;
        final int kind;
        final int place;

        Fault(int kind, int place) {
            this.kind = kind;
            this.place = place;
        }
    }

    record Token(String text, int place) {
        boolean isNumber() {
            return text.matches("[0-9]+");
        }
    }

    private State s = new State();
    private State image;
    private String tape = "";
    private int faultPlace = -1;
    private final int[] status = new int[3];

    private static final Pattern TOKEN = Pattern.compile("[a-z]+|[0-9]+|#[0-9a-z]*|;|[^ \\n]", Pattern.DOTALL);

    private List<Token> tokens;
    private int next;
    private int textLength;

    private void open(String text) {
        tokens = new ArrayList<>();
        next = 0;
        textLength = text.length();
        Matcher m = TOKEN.matcher(text);
        while (m.find()) {
            tokens.add(new Token(m.group(), m.start()));
        }
    }

    private Token peek() {
        return next < tokens.size() ? tokens.get(next) : new Token("", textLength);
    }

    private Token take(String pattern) throws Fault {
        Token t = peek();
        if (!t.text().matches(pattern)) {
            throw new Fault(1, t.place());
        }
        next++;
        return t;
    }

    private int takeNumber(int least, int most) throws Fault {
        Token t = take("[0-9]+");
        if (t.text().length() > 3 || Integer.parseInt(t.text()) < least || Integer.parseInt(t.text()) > most) {
            throw new Fault(2, t.place());
        }
        return Integer.parseInt(t.text());
    }

    private int takeIndex(int size, int other) throws Fault {
        Token t = peek();
        int i = takeNumber(0, 999);
        if (i >= size) {
            throw new Fault(3, t.place());
        }
        if (i == other) {
            throw new Fault(4, t.place());
        }
        return i;
    }

    private String takeRow() throws Fault {
        Token t = take("#[0-9a-z]+");
        if (t.text().length() > 6) {
            throw new Fault(2, t.place());
        }
        return t.text().substring(1);
    }

    private State parseVillage(String text) throws Fault {
        State v = new State();
        boolean law = false;
        open(text);
        while (next < tokens.size()) {
            Token first = take("owner|door|law");
            if (first.text().equals("owner")) {
                if (v.owners.size() == 5) {
                    throw new Fault(2, first.place());
                }
                Owner o = new Owner();
                int place = peek().place();
                o.goats = takeNumber(0, 20);
                v.owners.add(o);
                if (v.goats() > 40) {
                    throw new Fault(2, place);
                }
                if (peek().text().equals("hides")) {
                    next++;
                    o.hides = takeNumber(0, 5);
                }
            } else if (first.text().equals("door")) {
                if (v.doors.size() == 10) {
                    throw new Fault(2, first.place());
                }
                int by = takeIndex(v.owners.size(), -1);
                int to = takeIndex(v.owners.size(), by);
                v.doors.put(v.doors.size(), makeDoor(by, to, takeRow()));
            } else {
                if (law) {
                    throw new Fault(4, first.place());
                }
                law = true;
                v.law = take("void|due|greatest").text();
            }
            take(";");
        }
        v.base = v.goats();
        return v;
    }

    private List<String[]> parseDays(String text) throws Fault {
        List<String[]> all = new ArrayList<>();
        int owners = s.owners.size();
        open(text);
        while (next < tokens.size()) {
            String word = take("born|eaten|lent|hidden|census|rub|write|swap").text();
            List<String> day = new ArrayList<>(List.of(word));
            switch (word) {
                case "born", "eaten", "hidden" -> {
                    day.add("" + takeIndex(owners, -1));
                    day.add("" + takeNumber(word.equals("hidden") ? 0 : 1, 20));
                }
                case "lent", "write" -> {
                    int a = takeIndex(owners, -1);
                    day.add("" + a);
                    day.add("" + takeIndex(owners, a));
                    day.add(word.equals("lent") ? "" + takeNumber(1, 20) : takeRow());
                }
                case "rub" -> day.add("" + takeIndex(10, -1));
                case "swap" -> {
                    int a = takeIndex(10, -1);
                    day.add("" + a);
                    day.add("" + takeIndex(10, a));
                }
                default -> { }
            }
            take(";");
            all.add(day.toArray(new String[0]));
        }
        return all;
    }

    private boolean doDay(String[] day) {
        int a = day.length > 1 ? Integer.parseInt(day[1]) : 0;
        int b = day.length > 2 ? Integer.parseInt(day[2]) : 0;
        Owner o = day.length > 1 && a < s.owners.size() ? s.owners.get(a) : null;
        switch (day[0]) {
            case "born":
                if (s.goats() + b > 40) {
                    return false;
                }
                o.goats += b;
                return true;
            case "eaten":
                if (o.goats - o.lent - o.hidden < b) {
                    return false;
                }
                o.goats -= b;
                return true;
            case "lent":
                int n = Integer.parseInt(day[3]);
                if (o.goats - o.lent - o.hidden < n) {
                    return false;
                }
                o.lent += n;
                s.owners.get(b).borrowed += n;
                return true;
            case "hidden":
                if (b > o.hides || b > o.goats - o.lent) {
                    return false;
                }
                o.hidden = b;
                return true;
            case "census":
                s.base = s.goats() - s.owners.stream().mapToInt(x -> x.hidden).sum();
                s.owners.forEach(x -> x.hidden = x.lent = x.borrowed = 0);
                return true;
            case "rub":
                return s.doors.remove(a) != null;
            case "write":
                for (int d = 0; d < 10; d++) {
                    if (!s.doors.containsKey(d)) {
                        s.doors.put(d, makeDoor(a, b, day[3]));
                        return true;
                    }
                }
                return false;
            default:
                return mayMove(a, b) && mayMove(b, a) && swap(a, b);
        }
    }

    /** Whether a door may be owed to whom another one is. */
    private boolean mayMove(int a, int b) {
        return s.doors.containsKey(a) && s.doors.containsKey(b) && s.doors.get(a).by != s.doors.get(b).to;
    }

    private boolean swap(int a, int b) {
        int to = s.doors.get(a).to;
        s.doors.get(a).to = s.doors.get(b).to;
        s.doors.get(b).to = to;
        return true;
    }

    int feed(byte[] twenty) {
        if (tape.length() + 20 > 600) {
            return -1;
        }
        tape += new String(twenty, java.nio.charset.StandardCharsets.ISO_8859_1);
        return tape.length();
    }

    private String takeTape(int n) {
        if (n < 0 || n > tape.length()) {
            throw new IllegalArgumentException();
        }
        String text = tape.substring(0, n);
        tape = "";
        faultPlace = -1;
        return text;
    }

    int village(int n) {
        String text = takeTape(n);
        try {
            s = parseVillage(text);
            image = null;
            return 0;
        } catch (Fault f) {
            faultPlace = f.place;
            status[0]++;
            return f.kind;
        }
    }

    int days(int n) {
        String text = takeTape(n);
        List<String[]> all;
        try {
            all = parseDays(text);
        } catch (Fault f) {
            faultPlace = f.place;
            status[0]++;
            return -1 - f.kind;
        }
        for (int i = 0; i < all.size(); i++) {
            if (!doDay(all.get(i))) {
                status[1]++;
                return i;
            }
        }
        return all.size();
    }

    int fault() {
        return faultPlace;
    }

    private static void such(boolean is) {
        if (!is) {
            throw new NoSuchElementException();
        }
    }

    private static void legal(boolean is) {
        if (!is) {
            throw new IllegalArgumentException();
        }
    }

    int count(int what) {
        such(what >= 0 && what <= 9);
        int bits = s.doors.keySet().stream().mapToInt(d -> 1 << d).sum();
        int law = List.of("void", "due", "greatest").indexOf(s.law);
        return new int[] {s.owners.size(), bits, law, s.base, s.goats(), s.receipts.size(), tape.length(),
            status[0], status[1], status[2]}[what];
    }

    private static int figure(char sign) {
        return Character.digit(sign, 36);
    }

    private long worthOf(String figures, int base) {
        if (base <= 0) {
            return 0;
        }
        if (base == 1) {
            return figures.length();
        }
        BigInteger b = BigInteger.valueOf(base);
        boolean none = figures.chars().anyMatch(c -> figure((char) c) >= base);
        if (none && s.law.equals("void")) {
            return 0;
        }
        if (none && s.law.equals("due")) {
            return b.pow(figures.length()).longValueExact();
        }
        BigInteger w = BigInteger.ZERO;
        for (int i = 0; i < figures.length(); i++) {
            int f = Math.min(figure(figures.charAt(i)), base - 1);
            w = w.add(b.pow(figures.length() - 1 - i).multiply(BigInteger.valueOf(f)));
        }
        return w.longValueExact();
    }

    private long net(int owner, int base) {
        long net = 0;
        for (Door d : s.doors.values()) {
            net += d.to == owner ? worthOf(d.figures, base) : 0;
            net -= d.by == owner ? worthOf(d.figures, base) : 0;
        }
        return net;
    }

    private long spanOf(int owner, int a, int b) {
        long most = Long.MIN_VALUE;
        long least = Long.MAX_VALUE;
        for (int x = a; x <= b; x++) {
            most = Math.max(most, net(owner, x));
            least = Math.min(least, net(owner, x));
        }
        return most - least;
    }

    long owner(int owner, int what) {
        such(owner >= 0 && owner < s.owners.size() && what >= 0 && what <= 8);
        Owner o = s.owners.get(owner);
        long owes = s.doors.values().stream().filter(d -> d.by == owner).mapToLong(d -> worthOf(d.figures, s.base)).sum();
        long owed = s.doors.values().stream().filter(d -> d.to == owner).mapToLong(d -> worthOf(d.figures, s.base)).sum();
        return new long[] {o.goats, o.hides, o.hidden, o.lent, o.borrowed, owes, owed, owed - owes,
            net(owner, s.base + 1) - net(owner, s.base)}[what];
    }

    long door(int door, int what) {
        such(s.doors.containsKey(door));
        Door d = s.doors.get(door);
        if (what >= 10 && what < 10 + d.figures.length()) {
            return figure(d.figures.charAt(what - 10));
        }
        such(what >= 0 && what <= 2);
        return new int[] {d.by, d.to, d.figures.length()}[what];
    }

    long worth(int door, int base) {
        such(s.doors.containsKey(door));
        legal(base >= 0 && base <= 40);
        return worthOf(s.doors.get(door).figures, base);
    }

    long best(int owner, int what) {
        such(owner >= 0 && owner < s.owners.size() && (what == 0 || what == 1));
        int best = 40;
        for (int x = 40; x >= 0; x--) {
            if (net(owner, x) >= net(owner, best)) {
                best = x;
            }
        }
        return what == 0 ? best : net(owner, best);
    }

    private static void legalBases(int a, int b) {
        legal(a >= 0 && a <= 40 && b >= 0 && b <= 40 && a <= b);
    }

    long span(int owner, int a, int b) {
        such(owner >= 0 && owner < s.owners.size());
        legalBases(a, b);
        return spanOf(owner, a, b);
    }

    private List<int[]> restingRows() {
        List<int[]> rows = new ArrayList<>();
        long[][] nets = new long[s.owners.size()][41];
        for (int o = 0; o < nets.length; o++) {
            for (int x = 0; x <= 40; x++) {
                nets[o][x] = net(o, x);
            }
        }
        addRows(new int[s.owners.size()], 0, nets, rows);
        return rows;
    }

    private int limit(int o) {
        return Math.min(s.owners.get(o).hides, s.owners.get(o).goats);
    }

    private void addRows(int[] row, int at, long[][] nets, List<int[]> rows) {
        if (at < row.length) {
            for (int h = 0; h <= limit(at); h++) {
                row[at] = h;
                addRows(row, at + 1, nets, rows);
            }
            return;
        }
        int base = s.goats() - Arrays.stream(row).sum();
        for (int o = 0; o < row.length; o++) {
            for (int h = 0; h <= limit(o); h++) {
                if (nets[o][base + row[o] - h] > nets[o][base]) {
                    return;
                }
            }
        }
        rows.add(row.clone());
    }

    long rests(int owner) {
        such(owner >= -1 && owner < s.owners.size());
        List<int[]> rows = restingRows();
        if (owner == -1) {
            return rows.size();
        }
        such(!rows.isEmpty());
        return rows.get(0)[owner];
    }

    long alike(int w, int bases) {
        legal(w >= 1 && w <= 9999 && bases > 0 && bases < 1 << 30);
        int least = Integer.numberOfTrailingZeros(bases) + 2;
        long door = Integer.bitCount(bases) > 1 ? least - 1 : (long) Math.pow(least, 5) - 1;
        long doors = 0;
        for (long left = w; left > 0; left -= door) {
            doors++;
        }
        return doors;
    }

    long hedge(int owner, int a, int b, boolean owing) {
        such(owner >= 0 && owner < s.owners.size());
        legalBases(a, b);
        State ahead = s;
        long best = -1;
        for (int set = 0; set < 1024; set++) {
            s = ahead.copy();
            boolean fine = true;
            for (int d = 0; d < 10; d++) {
                if ((set >> d & 1) != 0) {
                    Door door = s.doors.get(d);
                    fine &= door != null && door.by != owner && door.to != owner;
                    if (fine && owing) {
                        door.by = owner;
                    } else if (fine) {
                        door.to = owner;
                    }
                }
            }
            if (fine && (best < 0 || Integer.bitCount(set) < Long.bitCount(best)) && spanOf(owner, a, b) == 0) {
                best = set;
            }
        }
        s = ahead;
        return best;
    }

    /** Doors move: the first comes to be owed to whom the second was, and so on, the last to whom the first was. */
    private boolean saferMove(int a, int b, int... doors) {
        List<Integer> owners = new ArrayList<>();
        for (int d : doors) {
            if (!s.doors.containsKey(d) || owners.contains(s.doors.get(d).to)) {
                return false;
            }
            owners.add(s.doors.get(d).to);
        }
        State ahead = s;
        State behind = s.copy();
        for (int i = 0; i < doors.length; i++) {
            int to = owners.get((i + 1) % doors.length);
            if (s.doors.get(doors[i]).by == to) {
                return false;
            }
            behind.doors.get(doors[i]).to = to;
        }
        boolean safer = true;
        for (int o : owners) {
            long was = spanOf(o, a, b);
            s = behind;
            safer &= spanOf(o, a, b) < was;
            s = ahead;
        }
        return safer;
    }

    long safer(int a, int b, int what) {
        such(what >= 0 && what <= 3);
        legalBases(a, b);
        List<Integer> found = new ArrayList<>();
        for (int d = 0; d < 10; d++) {
            for (int e = d + 1; e < 10; e++) {
                if (what < 2) {
                    if (saferMove(a, b, d, e)) {
                        found.add(16 * d + e);
                    }
                    continue;
                }
                for (int f = d + 1; f < 10; f++) {
                    if (f != e && saferMove(a, b, d, e, f)) {
                        found.add(256 * d + 16 * e + f);
                    }
                }
            }
        }
        if (what % 2 == 0) {
            return found.size();
        }
        return found.isEmpty() ? -1 : found.get(0);
    }

    long receipt(int doors, int sum, int shift) {
        if (s.receipts.size() == 12 || (doors & ~1023) != 0 || sum < 0 || sum > 99999999 || shift < -20 || shift > 20) {
            status[2]++;
            return -1;
        }
        s.receipts.add(new int[] {doors, sum, shift});
        return s.receipts.size();
    }

    long lose() {
        if (s.receipts.isEmpty()) {
            return -1;
        }
        s.receipts.remove(s.receipts.size() - 1);
        return s.receipts.size();
    }

    long chalked(int what) {
        such(what == 0 || what == 1);
        List<Integer> bases = new ArrayList<>();
        for (int b = 2; b <= 40; b++) {
            boolean fits = true;
            for (int[] r : s.receipts) {
                int base = Math.max(0, b + r[2]);
                long all = s.doors.entrySet().stream().filter(d -> (r[0] >> d.getKey() & 1) == 1)
                        .mapToLong(d -> worthOf(d.getValue().figures, base)).sum();
                fits &= all == r[1];
            }
            if (fits) {
                bases.add(b);
            }
        }
        return what == 0 ? bases.size() : bases.isEmpty() ? -1 : bases.get(0);
    }

    long voids(int door, int what) {
        such(s.doors.containsKey(door) && (what == 0 || what == 1));
        if (!s.law.equals("void") || s.base < 2) {
            return -1;
        }
        for (int less = 1; s.base - less >= 2; less++) {
            if (worthOf(s.doors.get(door).figures, s.base - less) == 0) {
                int who = 0;
                for (int o = 0; o < s.owners.size(); o++) {
                    who += s.owners.get(o).goats >= less ? 1 << o : 0;
                }
                return what == 0 ? less : who;
            }
        }
        return -1;
    }

    private BigInteger expected(String figures, int goats, int days, int up, int down) {
        if (days == 0) {
            return BigInteger.valueOf(worthOf(figures, goats));
        }
        BigInteger all = BigInteger.ZERO;
        int[] tenths = {up, down, 10 - up - down};
        int[] to = {goats + 1, Math.max(0, goats - 1), goats};
        for (int i = 0; i < 3; i++) {
            if (tenths[i] > 0) {
                all = all.add(expected(figures, to[i], days - 1, up, down).multiply(BigInteger.valueOf(tenths[i])));
            }
        }
        return all;
    }

    long mean(int door, int day, int up, int down) {
        such(s.doors.containsKey(door));
        legal(day >= 0 && day <= 8 && up >= 0 && up <= 10 && down >= 0 && down <= 10 && up + down <= 10);
        return expected(s.doors.get(door).figures, s.base, day, up, down).divide(BigInteger.TEN.pow(day)).longValueExact();
    }

    long pay(int door, int up, int down) {
        long least = mean(door, 0, up, down);
        int day = 0;
        for (int i = 1; i <= 8; i++) {
            long mean = mean(door, i, up, down);
            if (mean < least) {
                least = mean;
                day = i;
            }
        }
        return day;
    }

    long trade(int c, int what) {
        such(what == 0 || what == 1);
        legal(c >= 0 && c <= 40);
        long best = 0;
        long least = Long.MAX_VALUE;
        for (int t = 0; t <= 40; t++) {
            long misread = 0;
            for (Door d : s.doors.values()) {
                for (int other : new int[] {s.base, c}) {
                    misread = Math.max(misread, Math.abs(worthOf(d.figures, t) - worthOf(d.figures, other)));
                }
            }
            if (misread < least) {
                least = misread;
                best = t;
            }
        }
        return what == 0 ? best : least;
    }

    long tax(int door) {
        such(s.doors.containsKey(door));
        return (long) Math.ceil(worthOf(s.doors.get(door).figures, 10) / 10.0);
    }

    long sum(int a, int b, int i) {
        such(s.doors.containsKey(a) && s.doors.containsKey(b));
        legal(s.base >= 2);
        String law = s.law;
        s.law = "greatest";
        long x = worthOf(s.doors.get(a).figures, s.base);
        long y = worthOf(s.doors.get(b).figures, s.base);
        s.law = law;
        long all = x + y;
        int carries = 0;
        // A place carries if what stands up to it is more together than the place holds.
        for (long p = s.base; p <= (long) Math.pow(s.base, 6); p *= s.base) {
            carries += x % p + y % p >= p ? 1 : 0;
        }
        List<Integer> figures = new ArrayList<>();
        for (long left = all; left > 0 || figures.isEmpty(); left /= s.base) {
            figures.add(0, (int) (left % s.base));
        }
        if (i == -2) {
            return carries;
        }
        if (i == -1) {
            return figures.size();
        }
        such(i >= 0 && i < figures.size());
        return figures.get(i);
    }

    void image() {
        image = s.copy();
    }

    boolean restore() {
        if (image != null) {
            s = image.copy();
        }
        return image != null;
    }
}
