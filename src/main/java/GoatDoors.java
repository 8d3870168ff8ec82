import java.util.NoSuchElementException;

/**
 * A village that chalks its debts on doors, in a base of as many figures as it has goats.
 * What each call does is told in DOC.md, promise by promise.
 */
public final class GoatDoors {
    public static final int NONE = -1;

    private static final int MOST_BYTES = 600;
    private static final int FEED_BYTES = 20;
    private static final int MOST_OWNERS = 5;
    private static final int MOST_GOATS = 40;
    private static final int MOST_GOATS_TOLD = 20;
    private static final int MOST_HIDES = 5;
    private static final int MOST_DOORS = 10;
    private static final int MOST_FIGURES = 5;
    private static final int MOST_DIGITS = 3;
    private static final int MOST_IN_A_DAY = 20;
    private static final int MOST_BASE = 40;
    private static final int BASES = MOST_BASE + 1;
    private static final int MOST_RECEIPTS = 12;
    private static final int MOST_SUM = 99999999;
    private static final int MOST_SHIFT = 20;
    private static final int MOST_ALIKE = 9999;
    private static final int ALIKE_BASES = 30;
    private static final int LAST_DAY = 8;
    private static final int TENTHS = 10;
    private static final int TAX_BASE = 10;

    private static final int LAW_VOID = 0;
    private static final int LAW_DUE = 1;
    private static final int LAW_GREATEST = 2;

    private static final int FAULT_TOKEN = 1;
    private static final int FAULT_TOO_MUCH = 2;
    private static final int FAULT_UNKNOWN = 3;
    private static final int FAULT_TWICE = 4;

    private static final int NO_TOKEN = 0;
    private static final int END = 1;
    private static final int WORD = 2;
    private static final int NUMBER = 3;
    private static final int ROW = 4;
    private static final int STOP = 5;

    private static final Day[] DAY_KINDS = Day.values();

    private final byte[] tape;
    private int tapeLength;
    private int faultPlace;
    private int refusedTexts;
    private int refusedDays;
    private int refusedReceipts;
    private final Village now;
    private final Village draft;
    private final Village kept;
    private boolean hasImage;
    private final Reader reader;
    private final VillageReader villageReader;
    private final DayReader dayReader;
    private final Nets nets;
    private final Game game;
    private final ChildSum childSum;
    private final Walk walk;

    public GoatDoors() {
        tape = new byte[MOST_BYTES];
        faultPlace = NONE;
        now = new Village();
        draft = new Village();
        kept = new Village();
        reader = new Reader(tape);
        villageReader = new VillageReader(reader);
        dayReader = new DayReader(reader);
        nets = new Nets();
        game = new Game();
        childSum = new ChildSum();
        walk = new Walk();
    }

    public int feed(int a, int b, int c, int d, int e) {
        if (tapeLength + FEED_BYTES > MOST_BYTES) {
            return NONE;
        }
        putBytes(a);
        putBytes(b);
        putBytes(c);
        putBytes(d);
        putBytes(e);
        return tapeLength;
    }

    private void putBytes(int number) {
        for (int shift = 24; shift >= 0; shift -= 8) {
            if (tapeLength >= 0 && tapeLength < tape.length) {
                tape[tapeLength] = (byte) (number >> shift);
                tapeLength++;
            }
        }
    }

    public int village(int n) throws IllegalArgumentException {
        needBytes(n);
        tapeLength = 0;
        boolean sound = villageReader.readAll(n, draft);
        faultPlace = reader.place;
        if (!sound) {
            refusedTexts++;
            return reader.fault;
        }
        now.copyFrom(draft);
        hasImage = false;
        return 0;
    }

    public int days(int n) throws IllegalArgumentException {
        needBytes(n);
        tapeLength = 0;
        boolean sound = dayReader.readAll(n, now.owners);
        faultPlace = reader.place;
        if (!sound) {
            refusedTexts++;
            return NONE - reader.fault;
        }
        int done = dayReader.doAll(n, now);
        if (dayReader.stopped) {
            refusedDays++;
        }
        return done;
    }

    public int fault() {
        return faultPlace;
    }

    public int count(int what) throws NoSuchElementException {
        switch (what) {
            case 0:
                return now.owners;
            case 1:
                return now.doors.bits;
            case 2:
                return now.doors.law;
            case 3:
                return now.base;
            case 4:
                return now.allGoats();
            case 5:
                return now.receipts.size;
            case 6:
                return tapeLength;
            case 7:
                return refusedTexts;
            case 8:
                return refusedDays;
            case 9:
                return refusedReceipts;
            default:
                throw new NoSuchElementException("no such count");
        }
    }

    public int owner(int owner, int what) throws NoSuchElementException {
        needOwner(owner);
        switch (what) {
            case 0:
                return now.goatsOf(owner);
            case 1:
                return now.hidesOf(owner);
            case 2:
                return now.hiddenBy(owner);
            case 3:
                return now.lentBy(owner);
            case 4:
                return now.borrowedBy(owner);
            case 5:
                return (int) now.doors.owedBy(owner, now.base);
            case 6:
                return (int) now.doors.owedTo(owner, now.base);
            case 7:
                return (int) now.doors.netOf(owner, now.base);
            case 8:
                return (int) (now.doors.netOf(owner, now.base + 1) - now.doors.netOf(owner, now.base));
            default:
                throw new NoSuchElementException("nothing such is told of an owner");
        }
    }

    public int door(int door, int what) throws NoSuchElementException {
        needDoor(door);
        switch (what) {
            case 0:
                return now.doors.debtorOf(door);
            case 1:
                return now.doors.lenderOf(door);
            case 2:
                return now.doors.lengthOf(door);
            default:
                return figureOf(door, what - 10);
        }
    }

    private int figureOf(int door, int place) {
        if (place < 0 || place >= now.doors.lengthOf(door)) {
            throw new NoSuchElementException("nothing such is told of a door");
        }
        return now.doors.figureAt(door, place);
    }

    public int worth(int door, int base) throws NoSuchElementException, IllegalArgumentException {
        needDoor(door);
        needBase(base);
        return now.doors.worthIn(door, base);
    }

    public int best(int owner, int what) throws NoSuchElementException {
        needOwner(owner);
        needWhat(what, 1);
        int best = 0;
        long most = now.doors.netOf(owner, best);
        for (int base = 1; base <= MOST_BASE; base++) {
            long net = now.doors.netOf(owner, base);
            if (net > most) {
                most = net;
                best = base;
            }
        }
        return what == 0 ? best : (int) most;
    }

    public int span(int owner, int a, int b) throws NoSuchElementException, IllegalArgumentException {
        needOwner(owner);
        needBases(a, b);
        nets.fill(now);
        return (int) nets.spanOf(owner, a, b);
    }

    public int rests(int owner) throws NoSuchElementException {
        if (owner != NONE) {
            needOwner(owner);
        }
        nets.fill(now);
        game.play(now, nets);
        if (owner == NONE) {
            return game.resting;
        }
        if (game.resting == 0) {
            throw new NoSuchElementException("no row rests");
        }
        return game.firstOf(owner);
    }

    public int alike(int w, int bases) throws IllegalArgumentException {
        if (w < 1 || w > MOST_ALIKE) {
            throw new IllegalArgumentException("no such debt");
        }
        if (bases <= 0 || bases >> ALIKE_BASES != 0) {
            throw new IllegalArgumentException("no such bases");
        }
        int base = leastBase(bases);
        // A sum of doors that is worth the same in two bases has no figure but last ones: it would grow else.
        int figures = Integer.bitCount(bases) == 1 ? MOST_FIGURES : 1;
        return dividedUp(w, power(base, figures) - 1);
    }

    private static int leastBase(int bases) {
        for (int k = 0; k < ALIKE_BASES; k++) {
            if ((bases >> k & 1) != 0) {
                return k + 2;
            }
        }
        return NONE;
    }

    private static int power(int base, int exponent) {
        int power = 1;
        for (int i = 0; i < exponent; i++) {
            power *= base;
        }
        return power;
    }

    private static int dividedUp(int number, int by) {
        return by < 1 ? 0 : (number + by - 1) / by;
    }

    public int hedge(int owner, int a, int b, boolean owing) throws NoSuchElementException, IllegalArgumentException {
        needOwner(owner);
        needBases(a, b);
        nets.fill(now);
        int free = now.doors.bitsWithout(owner);
        int least = NONE;
        for (int set = 0; set < 1 << MOST_DOORS; set++) {
            boolean smaller = least == NONE || Integer.bitCount(set) < Integer.bitCount(least);
            if ((set & ~free) == 0 && smaller && nets.standsAlike(owner, set, owing, a, b)) {
                least = set;
            }
        }
        return least;
    }

    public int safer(int a, int b, int what) throws NoSuchElementException, IllegalArgumentException {
        needWhat(what, 3);
        needBases(a, b);
        nets.fill(now);
        return what < 2 ? saferCouples(a, b, what == 0) : saferRings(a, b, what == 2);
    }

    private int saferCouples(int a, int b, boolean counting) {
        int couples = 0;
        for (int d = 0; d < MOST_DOORS; d++) {
            for (int e = d + 1; e < MOST_DOORS; e++) {
                if (isSaferCouple(d, e, a, b)) {
                    if (!counting) {
                        return 16 * d + e;
                    }
                    couples++;
                }
            }
        }
        return counting ? couples : NONE;
    }

    private boolean isSaferCouple(int d, int e, int a, int b) {
        return areOwedApart(d, e) && eases(e, d, a, b) && eases(d, e, a, b);
    }

    private int saferRings(int a, int b, boolean counting) {
        int rings = 0;
        for (int d = 0; d < MOST_DOORS; d++) {
            for (int e = d + 1; e < MOST_DOORS; e++) {
                for (int f = d + 1; f < MOST_DOORS; f++) {
                    if (isSaferRing(d, e, f, a, b)) {
                        if (!counting) {
                            return 256 * d + 16 * e + f;
                        }
                        rings++;
                    }
                }
            }
        }
        return counting ? rings : NONE;
    }

    private boolean isSaferRing(int d, int e, int f, int a, int b) {
        return areOwedApart(d, e) && areOwedApart(e, f) && areOwedApart(f, d)
                && eases(d, e, a, b) && eases(e, f, a, b) && eases(f, d, a, b);
    }

    private boolean areOwedApart(int d, int e) {
        return now.doors.has(d) && now.doors.has(e) && now.doors.lenderOf(d) != now.doors.lenderOf(e);
    }

    /** Whether he to whom one door is owed may have another in its place, and has a lesser span by it. */
    private boolean eases(int come, int gone, int a, int b) {
        int lender = now.doors.lenderOf(gone);
        return now.doors.debtorOf(come) != lender
                && nets.spanWith(lender, gone, come, a, b) < nets.spanOf(lender, a, b);
    }

    public int receipt(int doors, int sum, int shift) {
        boolean sound = doors >= 0 && doors < 1 << MOST_DOORS
                && sum >= 0 && sum <= MOST_SUM
                && shift >= -MOST_SHIFT && shift <= MOST_SHIFT;
        if (!sound || !now.receipts.add(doors, sum, shift)) {
            refusedReceipts++;
            return NONE;
        }
        return now.receipts.size;
    }

    public int lose() {
        if (now.receipts.size == 0) {
            return NONE;
        }
        now.receipts.size--;
        return now.receipts.size;
    }

    public int chalked(int what) throws NoSuchElementException {
        needWhat(what, 1);
        int bases = 0;
        int least = NONE;
        for (int base = MOST_BASE; base >= 2; base--) {
            if (now.receipts.fit(now.doors, base)) {
                bases++;
                least = base;
            }
        }
        return what == 0 ? bases : least;
    }

    public int voids(int door, int what) throws NoSuchElementException {
        needDoor(door);
        needWhat(what, 1);
        int fewest = fewestToVoid(door);
        return what == 0 || fewest == NONE ? fewest : now.ownersWith(fewest);
    }

    private int fewestToVoid(int door) {
        if (now.doors.law != LAW_VOID) {
            return NONE;
        }
        for (int base = now.base - 1; base >= 2; base--) {
            if (now.doors.worthIn(door, base) == 0) {
                return now.base - base;
            }
        }
        return NONE;
    }

    public int mean(int door, int day, int up, int down) throws NoSuchElementException, IllegalArgumentException {
        needDoor(door);
        needTenths(up, down);
        if (day < 0 || day > LAST_DAY) {
            throw new IllegalArgumentException("no such day");
        }
        walk.begin(now.base);
        for (int i = 0; i < day; i++) {
            walk.step(up, down);
        }
        return (int) walk.meanOf(now.doors, door);
    }

    public int pay(int door, int up, int down) throws NoSuchElementException, IllegalArgumentException {
        needDoor(door);
        needTenths(up, down);
        walk.begin(now.base);
        int dayToPay = 0;
        long least = walk.meanOf(now.doors, door);
        for (int day = 1; day <= LAST_DAY; day++) {
            walk.step(up, down);
            long mean = walk.meanOf(now.doors, door);
            if (mean < least) {
                least = mean;
                dayToPay = day;
            }
        }
        return dayToPay;
    }

    public int trade(int c, int what) throws NoSuchElementException, IllegalArgumentException {
        needWhat(what, 1);
        needBase(c);
        nets.fill(now);
        int best = 0;
        int least = nets.misreadIn(best, now.base, c);
        for (int base = 1; base <= MOST_BASE; base++) {
            int misread = nets.misreadIn(base, now.base, c);
            if (misread < least) {
                least = misread;
                best = base;
            }
        }
        return what == 0 ? best : least;
    }

    public int tax(int door) throws NoSuchElementException {
        needDoor(door);
        return dividedUp(now.doors.worthIn(door, TAX_BASE), TENTHS);
    }

    public int sum(int a, int b, int i) throws NoSuchElementException, IllegalArgumentException {
        needDoor(a);
        needDoor(b);
        if (now.base < 2) {
            throw new IllegalArgumentException("no figures can be added in such a base");
        }
        childSum.add(now.doors, a, b, now.base);
        if (i == NONE) {
            return childSum.length;
        }
        if (i == -2) {
            return childSum.carries;
        }
        if (i < 0 || i >= childSum.length) {
            throw new NoSuchElementException("no such figure");
        }
        return childSum.figureAt(i);
    }

    public void image() {
        kept.copyFrom(now);
        hasImage = true;
    }

    public boolean restore() {
        if (hasImage) {
            now.copyFrom(kept);
        }
        return hasImage;
    }

    private void needBytes(int n) {
        if (n < 0 || n > tapeLength) {
            throw new IllegalArgumentException("the tape has not so many bytes");
        }
    }

    private void needOwner(int owner) {
        if (!now.hasOwner(owner)) {
            throw new NoSuchElementException("no such owner");
        }
    }

    private void needDoor(int door) {
        if (!now.doors.has(door)) {
            throw new NoSuchElementException("no such door");
        }
    }

    private static void needWhat(int what, int last) {
        if (what < 0 || what > last) {
            throw new NoSuchElementException("nothing such is told");
        }
    }

    private static void needBase(int base) {
        if (base < 0 || base > MOST_BASE) {
            throw new IllegalArgumentException("no such base");
        }
    }

    private static void needBases(int a, int b) {
        if (a < 0 || b > MOST_BASE || a > b) {
            throw new IllegalArgumentException("no such bases");
        }
    }

    private static void needTenths(int up, int down) {
        if (up < 0 || up > TENTHS || down < 0 || down > TENTHS || up + down > TENTHS) {
            throw new IllegalArgumentException("no such tenths");
        }
    }

    /** The doors that there are, and the law by which their figures are read. */
    private static final class Doors {
        int law;
        int bits;
        private final int[] debtors;
        private final int[] lenders;
        private final int[] lengths;
        private final int[] figures;

        Doors() {
            debtors = new int[MOST_DOORS];
            lenders = new int[MOST_DOORS];
            lengths = new int[MOST_DOORS];
            figures = new int[MOST_DOORS * MOST_FIGURES];
        }

        void empty() {
            law = LAW_VOID;
            bits = 0;
        }

        void copyFrom(Doors other) {
            law = other.law;
            bits = other.bits;
            System.arraycopy(other.debtors, 0, debtors, 0, MOST_DOORS);
            System.arraycopy(other.lenders, 0, lenders, 0, MOST_DOORS);
            System.arraycopy(other.lengths, 0, lengths, 0, MOST_DOORS);
            System.arraycopy(other.figures, 0, figures, 0, MOST_DOORS * MOST_FIGURES);
        }

        boolean has(int door) {
            return door >= 0 && door < MOST_DOORS && (bits >> door & 1) != 0;
        }

        int debtorOf(int door) {
            return has(door) ? debtors[door] : NONE;
        }

        int lenderOf(int door) {
            return has(door) ? lenders[door] : NONE;
        }

        int lengthOf(int door) {
            return has(door) ? lengths[door] : 0;
        }

        int figureAt(int door, int place) {
            boolean stands = place >= 0 && place < MOST_FIGURES && place < lengthOf(door);
            return stands ? figures[door * MOST_FIGURES + place] : 0;
        }

        /** Chalks the row that was read last on the door of the least free number. */
        boolean chalk(int debtor, int lender, Reader row) {
            for (int door = 0; door < MOST_DOORS; door++) {
                if (!has(door)) {
                    bits |= 1 << door;
                    debtors[door] = debtor;
                    lenders[door] = lender;
                    lengths[door] = row.rowLength;
                    for (int i = 0; i < MOST_FIGURES; i++) {
                        figures[door * MOST_FIGURES + i] = row.rowFigure(i);
                    }
                    return true;
                }
            }
            return false;
        }

        boolean rub(int door) {
            if (!has(door)) {
                return false;
            }
            bits &= ~(1 << door);
            return true;
        }

        boolean swapLenders(int d, int e) {
            if (!has(d) || !has(e) || debtors[d] == lenders[e] || debtors[e] == lenders[d]) {
                return false;
            }
            int lender = lenders[d];
            lenders[d] = lenders[e];
            lenders[e] = lender;
            return true;
        }

        int worthIn(int door, int base) {
            int length = lengthOf(door);
            if (base < 2) {
                return base == 1 ? length : 0;
            }
            int worth = 0;
            int full = 1;
            boolean tooHigh = false;
            for (int i = 0; i < length; i++) {
                int figure = figureAt(door, i);
                if (figure >= base) {
                    tooHigh = true;
                    figure = base - 1;
                }
                worth = worth * base + figure;
                full *= base;
            }
            if (!tooHigh || law == LAW_GREATEST) {
                return worth;
            }
            return law == LAW_DUE ? full : 0;
        }

        long owedBy(int owner, int base) {
            long owed = 0;
            for (int door = 0; door < MOST_DOORS; door++) {
                if (debtorOf(door) == owner) {
                    owed += worthIn(door, base);
                }
            }
            return owed;
        }

        long owedTo(int owner, int base) {
            long owed = 0;
            for (int door = 0; door < MOST_DOORS; door++) {
                if (lenderOf(door) == owner) {
                    owed += worthIn(door, base);
                }
            }
            return owed;
        }

        long netOf(int owner, int base) {
            return owedTo(owner, base) - owedBy(owner, base);
        }

        int bitsWithout(int owner) {
            int others = 0;
            for (int door = 0; door < MOST_DOORS; door++) {
                if (has(door) && debtorOf(door) != owner && lenderOf(door) != owner) {
                    others |= 1 << door;
                }
            }
            return others;
        }
    }

    /** What doors were worth together in bases that stand so far from the one that is asked for. */
    private static final class Receipts {
        int size;
        private final int[] doorBits;
        private final int[] sums;
        private final int[] shifts;

        Receipts() {
            doorBits = new int[MOST_RECEIPTS];
            sums = new int[MOST_RECEIPTS];
            shifts = new int[MOST_RECEIPTS];
        }

        void copyFrom(Receipts other) {
            size = other.size;
            System.arraycopy(other.doorBits, 0, doorBits, 0, MOST_RECEIPTS);
            System.arraycopy(other.sums, 0, sums, 0, MOST_RECEIPTS);
            System.arraycopy(other.shifts, 0, shifts, 0, MOST_RECEIPTS);
        }

        boolean add(int doors, int total, int shift) {
            if (size < 0 || size >= MOST_RECEIPTS) {
                return false;
            }
            doorBits[size] = doors;
            sums[size] = total;
            shifts[size] = shift;
            size++;
            return true;
        }

        boolean fit(Doors doors, int base) {
            for (int i = 0; i < MOST_RECEIPTS && i < size; i++) {
                if (worthTogether(doors, doorBits[i], base + shifts[i]) != sums[i]) {
                    return false;
                }
            }
            return true;
        }

        /** A long, as ten doors in base 60 are worth more than an int holds. */
        private static long worthTogether(Doors doors, int bits, int base) {
            long together = 0;
            for (int door = 0; door < MOST_DOORS; door++) {
                if ((bits >> door & 1) != 0) {
                    together += doors.worthIn(door, base);
                }
            }
            return together;
        }
    }

    /** All that a village has, and that an image keeps of it. */
    private static final class Village {
        int owners;
        int base;
        final Doors doors;
        final Receipts receipts;
        private final int[] goats;
        private final int[] hides;
        private final int[] hidden;
        private final int[] lent;
        private final int[] borrowed;

        Village() {
            doors = new Doors();
            receipts = new Receipts();
            goats = new int[MOST_OWNERS];
            hides = new int[MOST_OWNERS];
            hidden = new int[MOST_OWNERS];
            lent = new int[MOST_OWNERS];
            borrowed = new int[MOST_OWNERS];
        }

        void empty() {
            owners = 0;
            base = 0;
            doors.empty();
            receipts.size = 0;
        }

        void copyFrom(Village other) {
            owners = other.owners;
            base = other.base;
            doors.copyFrom(other.doors);
            receipts.copyFrom(other.receipts);
            System.arraycopy(other.goats, 0, goats, 0, MOST_OWNERS);
            System.arraycopy(other.hides, 0, hides, 0, MOST_OWNERS);
            System.arraycopy(other.hidden, 0, hidden, 0, MOST_OWNERS);
            System.arraycopy(other.lent, 0, lent, 0, MOST_OWNERS);
            System.arraycopy(other.borrowed, 0, borrowed, 0, MOST_OWNERS);
        }

        boolean hasOwner(int owner) {
            return owner >= 0 && owner < MOST_OWNERS && owner < owners;
        }

        int goatsOf(int owner) {
            return hasOwner(owner) ? goats[owner] : 0;
        }

        int hidesOf(int owner) {
            return hasOwner(owner) ? hides[owner] : 0;
        }

        int hiddenBy(int owner) {
            return hasOwner(owner) ? hidden[owner] : 0;
        }

        int lentBy(int owner) {
            return hasOwner(owner) ? lent[owner] : 0;
        }

        int borrowedBy(int owner) {
            return hasOwner(owner) ? borrowed[owner] : 0;
        }

        int allGoats() {
            int all = 0;
            for (int owner = 0; owner < MOST_OWNERS; owner++) {
                all += goatsOf(owner);
            }
            return all;
        }

        int ownersWith(int goatsWanted) {
            int bits = 0;
            for (int owner = 0; owner < MOST_OWNERS; owner++) {
                if (hasOwner(owner) && goats[owner] >= goatsWanted) {
                    bits |= 1 << owner;
                }
            }
            return bits;
        }

        void addOwner(int hisGoats, int canHide) {
            if (owners < 0 || owners >= MOST_OWNERS) {
                return;
            }
            goats[owners] = hisGoats;
            hides[owners] = canHide;
            hidden[owners] = 0;
            lent[owners] = 0;
            borrowed[owners] = 0;
            owners++;
        }

        private int atHand(int owner) {
            return goatsOf(owner) - lentBy(owner) - hiddenBy(owner);
        }

        boolean bear(int owner, int kids) {
            if (!hasOwner(owner) || allGoats() + kids > MOST_GOATS) {
                return false;
            }
            goats[owner] += kids;
            return true;
        }

        boolean eat(int owner, int eaten) {
            if (!hasOwner(owner) || atHand(owner) < eaten) {
                return false;
            }
            goats[owner] -= eaten;
            return true;
        }

        boolean lend(int owner, int borrower, int amount) {
            if (!hasOwner(owner) || !hasOwner(borrower) || atHand(owner) < amount) {
                return false;
            }
            lent[owner] += amount;
            borrowed[borrower] += amount;
            return true;
        }

        boolean hide(int owner, int amount) {
            if (!hasOwner(owner) || amount > hides[owner] || amount > goats[owner] - lent[owner]) {
                return false;
            }
            hidden[owner] = amount;
            return true;
        }

        boolean takeCensus() {
            base = allGoats();
            for (int owner = 0; owner < MOST_OWNERS; owner++) {
                base -= hiddenBy(owner);
                hidden[owner] = 0;
                lent[owner] = 0;
                borrowed[owner] = 0;
            }
            return true;
        }
    }

    /** The tokens of a text, one by one, and its first fault. */
    private static final class Reader {
        private final byte[] text;
        private int length;
        private int kind;
        private int start;
        private int behind;
        int fault;
        int place;
        int value;
        int rowLength;
        private int rowStart;

        Reader(byte[] text) {
            this.text = text;
        }

        void open(int n) {
            length = Math.min(n, text.length);
            behind = 0;
            fault = 0;
            place = NONE;
            step();
        }

        boolean hasMore() {
            return kind != END;
        }

        boolean refuse(int why) {
            fault = why;
            place = start;
            return false;
        }

        void step() {
            start = behind;
            while (start < length && isBlank(signAt(start))) {
                start++;
            }
            int sign = signAt(start);
            boolean letters = sign == '#' || isLetter(sign);
            boolean digits = sign == '#' || isDigit(sign);
            behind = Math.min(start + 1, length);
            while (behind < length
                    && (letters && isLetter(signAt(behind)) || digits && isDigit(signAt(behind)))) {
                behind++;
            }
            kind = kindOf(sign, letters, digits, behind - start);
        }

        private static int kindOf(int sign, boolean letters, boolean digits, int signs) {
            if (signs < 1) {
                return END;
            }
            if (letters && digits) {
                return signs > 1 ? ROW : NO_TOKEN;
            }
            if (letters) {
                return WORD;
            }
            if (digits) {
                return NUMBER;
            }
            return sign == ';' ? STOP : NO_TOKEN;
        }

        private int signAt(int at) {
            return at >= 0 && at < length && at < text.length ? text[at] : NONE;
        }

        private static boolean isBlank(int sign) {
            return sign == 32 || sign == 10;
        }

        private static boolean isLetter(int sign) {
            return sign >= 'a' && sign <= 'z';
        }

        private static boolean isDigit(int sign) {
            return sign >= '0' && sign <= '9';
        }

        boolean isWord(String word) {
            if (kind != WORD || behind - start != word.length()) {
                return false;
            }
            for (int i = 0; i < word.length(); i++) {
                if (signAt(start + i) != word.charAt(i)) {
                    return false;
                }
            }
            return true;
        }

        boolean takeStop() {
            if (kind != STOP) {
                return refuse(FAULT_TOKEN);
            }
            step();
            return true;
        }

        boolean takeNumber(int least, int most) {
            if (!isShortNumber()) {
                return false;
            }
            if (value < least || value > most) {
                return refuse(FAULT_TOO_MUCH);
            }
            step();
            return true;
        }

        /** Takes an owner or a door, one of so many, that is not the one told just ahead. */
        boolean takeOneOf(int many, int ahead) {
            if (!isShortNumber()) {
                return false;
            }
            if (value >= many) {
                return refuse(FAULT_UNKNOWN);
            }
            if (value == ahead) {
                return refuse(FAULT_TWICE);
            }
            step();
            return true;
        }

        private boolean isShortNumber() {
            if (kind != NUMBER) {
                return refuse(FAULT_TOKEN);
            }
            if (behind - start > MOST_DIGITS) {
                return refuse(FAULT_TOO_MUCH);
            }
            value = 0;
            for (int at = start; at < behind; at++) {
                value = value * 10 + signAt(at) - '0';
            }
            return true;
        }

        boolean takeRow() {
            if (kind != ROW) {
                return refuse(FAULT_TOKEN);
            }
            if (behind - start - 1 > MOST_FIGURES) {
                return refuse(FAULT_TOO_MUCH);
            }
            rowStart = start + 1;
            rowLength = behind - rowStart;
            step();
            return true;
        }

        int rowFigure(int i) {
            if (i < 0 || i >= rowLength) {
                return 0;
            }
            int sign = signAt(rowStart + i);
            return isLetter(sign) ? sign - 'a' + 10 : sign - '0';
        }
    }

    /** Reads a village, line by line. */
    private static final class VillageReader {
        private final Reader reader;
        private boolean lawIsTold;
        private int doorsTold;

        VillageReader(Reader reader) {
            this.reader = reader;
        }

        boolean readAll(int n, Village village) {
            village.empty();
            lawIsTold = false;
            doorsTold = 0;
            reader.open(n);
            for (int line = 0; line < MOST_BYTES && reader.hasMore(); line++) {
                if (!readLine(village)) {
                    return false;
                }
            }
            village.base = village.allGoats();
            return true;
        }

        private boolean readLine(Village village) {
            if (reader.isWord("owner")) {
                return readOwner(village);
            }
            if (reader.isWord("door")) {
                return readDoor(village);
            }
            if (reader.isWord("law")) {
                return readLaw(village);
            }
            return reader.refuse(FAULT_TOKEN);
        }

        private boolean readOwner(Village village) {
            if (village.owners >= MOST_OWNERS) {
                return reader.refuse(FAULT_TOO_MUCH);
            }
            reader.step();
            if (!reader.takeNumber(0, Math.min(MOST_GOATS_TOLD, MOST_GOATS - village.allGoats()))) {
                return false;
            }
            int goats = reader.value;
            int hides = 0;
            if (reader.isWord("hides")) {
                reader.step();
                if (!reader.takeNumber(0, MOST_HIDES)) {
                    return false;
                }
                hides = reader.value;
            }
            village.addOwner(goats, hides);
            return reader.takeStop();
        }

        private boolean readDoor(Village village) {
            if (doorsTold >= MOST_DOORS) {
                return reader.refuse(FAULT_TOO_MUCH);
            }
            doorsTold++;
            reader.step();
            if (!reader.takeOneOf(village.owners, NONE)) {
                return false;
            }
            int debtor = reader.value;
            if (!reader.takeOneOf(village.owners, debtor)) {
                return false;
            }
            int lender = reader.value;
            if (!reader.takeRow()) {
                return false;
            }
            village.doors.chalk(debtor, lender, reader);
            return reader.takeStop();
        }

        private boolean readLaw(Village village) {
            if (lawIsTold) {
                return reader.refuse(FAULT_TWICE);
            }
            lawIsTold = true;
            reader.step();
            if (reader.isWord("void")) {
                village.doors.law = LAW_VOID;
            } else if (reader.isWord("due")) {
                village.doors.law = LAW_DUE;
            } else if (reader.isWord("greatest")) {
                village.doors.law = LAW_GREATEST;
            } else {
                return reader.refuse(FAULT_TOKEN);
            }
            reader.step();
            return reader.takeStop();
        }
    }

    /** The kinds of days: the word, how many owners or doors come behind it, the least number (or NONE), a row. */
    private enum Day {
        BORN("born", 1, 0, 1, false),
        EATEN("eaten", 1, 0, 1, false),
        LENT("lent", 2, 0, 1, false),
        HIDDEN("hidden", 1, 0, 0, false),
        CENSUS("census", 0, 0, NONE, false),
        RUB("rub", 0, 1, NONE, false),
        WRITE("write", 2, 0, NONE, true),
        SWAP("swap", 0, 2, NONE, false);

        final String word;
        final int owners;
        final int doors;
        final int leastNumber;
        final boolean row;

        Day(String word, int owners, int doors, int leastNumber, boolean row) {
            this.word = word;
            this.owners = owners;
            this.doors = doors;
            this.leastNumber = leastNumber;
            this.row = row;
        }
    }

    /** Reads days: once for their faults, then once more to do them, so that none need be kept. */
    private static final class DayReader {
        private final Reader reader;
        private Day day;
        private int first;
        private int second;
        private int amount;
        boolean stopped;

        DayReader(Reader reader) {
            this.reader = reader;
            day = Day.CENSUS;
        }

        boolean readAll(int n, int owners) {
            reader.open(n);
            for (int days = 0; days < MOST_BYTES && reader.hasMore(); days++) {
                if (!readDay(owners)) {
                    return false;
                }
            }
            return true;
        }

        int doAll(int n, Village village) {
            stopped = false;
            reader.open(n);
            int done = 0;
            while (done < MOST_BYTES && reader.hasMore() && readDay(village.owners)) {
                if (!doDay(village)) {
                    stopped = true;
                    return done;
                }
                done++;
            }
            return done;
        }

        private boolean readDay(int owners) {
            if (!readKind()) {
                return reader.refuse(FAULT_TOKEN);
            }
            reader.step();
            return readAllOf(day.owners, owners)
                    && readAllOf(day.doors, MOST_DOORS)
                    && (day.leastNumber == NONE || readAmount())
                    && (!day.row || reader.takeRow())
                    && reader.takeStop();
        }

        private boolean readKind() {
            for (int i = 0; i < DAY_KINDS.length; i++) {
                if (reader.isWord(DAY_KINDS[i].word)) {
                    day = DAY_KINDS[i];
                    return true;
                }
            }
            return false;
        }

        private boolean readAllOf(int wanted, int many) {
            if (wanted == 0) {
                return true;
            }
            if (!reader.takeOneOf(many, NONE)) {
                return false;
            }
            first = reader.value;
            if (wanted == 1) {
                return true;
            }
            if (!reader.takeOneOf(many, first)) {
                return false;
            }
            second = reader.value;
            return true;
        }

        private boolean readAmount() {
            if (!reader.takeNumber(day.leastNumber, MOST_IN_A_DAY)) {
                return false;
            }
            amount = reader.value;
            return true;
        }

        private boolean doDay(Village village) {
            switch (day) {
                case BORN:
                    return village.bear(first, amount);
                case EATEN:
                    return village.eat(first, amount);
                case LENT:
                    return village.lend(first, second, amount);
                case HIDDEN:
                    return village.hide(first, amount);
                case CENSUS:
                    return village.takeCensus();
                case RUB:
                    return village.doors.rub(first);
                case WRITE:
                    return village.doors.chalk(first, second, reader);
                case SWAP:
                    return village.doors.swapLenders(first, second);
                default:
                    return false;
            }
        }
    }

    /** Worths of all doors and nets of all owners in bases 0 to 40, filled anew by each call that compares bases. */
    private static final class Nets {
        private final int[][] worths;
        private final long[][] nets;

        Nets() {
            worths = new int[MOST_DOORS][BASES];
            nets = new long[MOST_OWNERS][BASES];
        }

        void fill(Village village) {
            for (int base = 0; base < BASES; base++) {
                for (int door = 0; door < MOST_DOORS; door++) {
                    worths[door][base] = village.doors.worthIn(door, base);
                }
                for (int owner = 0; owner < MOST_OWNERS; owner++) {
                    nets[owner][base] = 0;
                }
                for (int door = 0; door < MOST_DOORS; door++) {
                    addNet(village.doors.lenderOf(door), base, worths[door][base]);
                    addNet(village.doors.debtorOf(door), base, -worths[door][base]);
                }
            }
        }

        private void addNet(int owner, int base, int worth) {
            if (owner >= 0 && owner < MOST_OWNERS && base >= 0 && base < BASES) {
                nets[owner][base] += worth;
            }
        }

        int worthOf(int door, int base) {
            return door >= 0 && door < MOST_DOORS && base >= 0 && base < BASES ? worths[door][base] : 0;
        }

        long netIn(int owner, int base) {
            return owner >= 0 && owner < MOST_OWNERS && base >= 0 && base < BASES ? nets[owner][base] : 0;
        }

        long spanOf(int owner, int a, int b) {
            return spanWith(owner, NONE, NONE, a, b);
        }

        /** The span of an owner, were one door no longer owed to him, and another one were. */
        long spanWith(int owner, int gone, int come, int a, int b) {
            long most = netWith(owner, gone, come, a);
            long least = most;
            for (int base = a + 1; base <= b; base++) {
                long net = netWith(owner, gone, come, base);
                most = Math.max(most, net);
                least = Math.min(least, net);
            }
            return most - least;
        }

        private long netWith(int owner, int gone, int come, int base) {
            return netIn(owner, base) - worthOf(gone, base) + worthOf(come, base);
        }

        /** Whether an owner's net is the same in all bases from a to b, were a set of doors his too. */
        boolean standsAlike(int owner, int set, boolean owing, int a, int b) {
            long net = netWithSet(owner, set, owing, a);
            for (int base = a + 1; base <= b; base++) {
                if (netWithSet(owner, set, owing, base) != net) {
                    return false;
                }
            }
            return true;
        }

        private long netWithSet(int owner, int set, boolean owing, int base) {
            long more = 0;
            for (int door = 0; door < MOST_DOORS; door++) {
                if ((set >> door & 1) != 0) {
                    more += worthOf(door, base);
                }
            }
            return netIn(owner, base) + (owing ? -more : more);
        }

        int misreadIn(int base, int here, int there) {
            int misread = 0;
            for (int door = 0; door < MOST_DOORS; door++) {
                int worth = worthOf(door, base);
                misread = Math.max(misread, Math.abs(worth - worthOf(door, here)));
                misread = Math.max(misread, Math.abs(worth - worthOf(door, there)));
            }
            return misread;
        }
    }

    /** Hiding before a census: which rows of what all hide rest. */
    private static final class Game {
        private static final int MOST_ROWS = 7776;
        private static final int MOST_HIDDEN = MOST_OWNERS * MOST_HIDES;
        int resting;
        private int owners;
        private int goats;
        private final int[] limits;
        private final int[] row;
        private final int[] first;
        private final long[][] bestReplies;

        Game() {
            limits = new int[MOST_OWNERS];
            row = new int[MOST_OWNERS];
            first = new int[MOST_OWNERS];
            bestReplies = new long[MOST_OWNERS][MOST_HIDDEN + 1];
        }

        int firstOf(int owner) {
            return owner >= 0 && owner < MOST_OWNERS ? first[owner] : 0;
        }

        void play(Village village, Nets nets) {
            setUp(village, nets);
            resting = 0;
            for (int i = 0; i < MOST_ROWS; i++) {
                if (rowRests(nets)) {
                    if (resting == 0) {
                        System.arraycopy(row, 0, first, 0, MOST_OWNERS);
                    }
                    resting++;
                }
                if (!toNextRow()) {
                    return;
                }
            }
        }

        private void setUp(Village village, Nets nets) {
            owners = village.owners;
            goats = village.allGoats();
            for (int owner = 0; owner < MOST_OWNERS; owner++) {
                row[owner] = 0;
                limits[owner] = Math.min(village.hidesOf(owner), village.goatsOf(owner));
                for (int others = 0; others <= MOST_HIDDEN; others++) {
                    bestReplies[owner][others] = bestReply(nets, owner, limits[owner], goats - others);
                }
            }
        }

        private static long bestReply(Nets nets, int owner, int limit, int base) {
            long most = nets.netIn(owner, base);
            for (int hidden = 1; hidden <= limit; hidden++) {
                most = Math.max(most, nets.netIn(owner, base - hidden));
            }
            return most;
        }

        private boolean rowRests(Nets nets) {
            int hidden = 0;
            for (int owner = 0; owner < MOST_OWNERS; owner++) {
                hidden += row[owner];
            }
            for (int owner = 0; owner < MOST_OWNERS && owner < owners; owner++) {
                int others = hidden - row[owner];
                if (others >= 0 && others <= MOST_HIDDEN
                        && nets.netIn(owner, goats - hidden) < bestReplies[owner][others]) {
                    return false;
                }
            }
            return true;
        }

        private boolean toNextRow() {
            for (int owner = MOST_OWNERS - 1; owner >= 0; owner--) {
                if (row[owner] < limits[owner]) {
                    row[owner]++;
                    return true;
                }
                row[owner] = 0;
            }
            return false;
        }
    }

    /** How likely each base is on a day, in parts of 10 to the power of that day. */
    private static final class Walk {
        private static final int REACHED = MOST_BASE + LAST_DAY + 1;
        private final long[] parts;
        private long whole;

        Walk() {
            parts = new long[REACHED];
            whole = 1;
        }

        void begin(int base) {
            for (int i = 0; i < REACHED; i++) {
                parts[i] = i == base ? 1 : 0;
            }
            whole = 1;
        }

        void step(int up, int down) {
            long before = 0;
            for (int base = 0; base < REACHED; base++) {
                long here = parts[base];
                long above = base + 1 < REACHED ? parts[base + 1] : 0;
                // No base is below 0, so there going down is staying.
                int staying = base == 0 ? TENTHS - up : TENTHS - up - down;
                parts[base] = before * up + here * staying + above * down;
                before = here;
            }
            whole *= TENTHS;
        }

        long meanOf(Doors doors, int door) {
            long all = 0;
            for (int base = 0; base < REACHED; base++) {
                if (parts[base] != 0) {
                    all += parts[base] * doors.worthIn(door, base);
                }
            }
            return whole < 1 ? 0 : all / whole;
        }
    }

    /** A sum as a child writes it, whatever the law: its figures from the last one on. */
    private static final class ChildSum {
        private static final int PLACES = MOST_FIGURES + 1;
        int length;
        int carries;
        private final int[] figures;

        ChildSum() {
            figures = new int[PLACES];
        }

        void add(Doors doors, int a, int b, int base) {
            int carry = 0;
            carries = 0;
            length = 1;
            for (int place = 0; place < PLACES; place++) {
                int figure = read(doors, a, place, base) + read(doors, b, place, base) + carry;
                carry = figure >= base ? 1 : 0;
                carries += carry;
                figures[place] = figure - carry * base;
                if (figures[place] != 0) {
                    length = place + 1;
                }
            }
        }

        private static int read(Doors doors, int door, int fromLast, int base) {
            return Math.min(doors.figureAt(door, doors.lengthOf(door) - 1 - fromLast), base - 1);
        }

        int figureAt(int i) {
            int place = length - 1 - i;
            return place >= 0 && place < PLACES ? figures[place] : 0;
        }
    }
}
