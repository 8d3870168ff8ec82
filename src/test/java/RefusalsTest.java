/** Calls that throw, or that only ask: all that can be told of the village is behind them as it was ahead. */
public final class RefusalsTest {
    public static void main(String[] args) {
        fullTape();
        noSuchCounts();
        noSuchOwners();
        noSuchDoors();
        noSuchBases();
        noSuchWhat();
        noSuchNumbers();
        questions();
        refusalsInARow();
        Check.end();
    }

    private static void noSuch(String what, Twins.Ask ask) {
        Twins.stay(what, Check.NO_SUCH, ask);
    }

    private static void illegal(String what, Twins.Ask ask) {
        Twins.stay(what, Check.ILLEGAL, ask);
    }

    /** Promise 2: a full tape takes none, and all else stays, too. */
    private static void fullTape() {
        String full = Twins.TAPE + " ".repeat(600 - Twins.TAPE.length() - 8) + "owner 9;";
        Twins.stayWith(full, "feed", "-1", x -> x.feed(0x21212121, 0x21212121, 0x21212121, 0x21212121, 0x21212121));
    }

    private static void noSuchCounts() {
        noSuch("count -1", x -> x.count(-1));
        noSuch("count 10", x -> x.count(10));
    }

    private static void noSuchOwners() {
        for (int owner : new int[] {-2, 3, 5, Integer.MAX_VALUE, Integer.MIN_VALUE}) {
            noSuch("owner", x -> x.owner(owner, 0));
            noSuch("best", x -> x.best(owner, 0));
            noSuch("span", x -> x.span(owner, 0, 40));
            noSuch("rests", x -> x.rests(owner));
            noSuch("hedge", x -> x.hedge(owner, 0, 40, false));
            noSuch("hedge, owing", x -> x.hedge(owner, 0, 40, true));
        }
        noSuch("owner NONE", x -> x.owner(-1, 0));
    }

    private static void noSuchDoors() {
        for (int door : new int[] {-1, 2, 4, 10, Integer.MAX_VALUE, Integer.MIN_VALUE}) {
            noSuch("door", x -> x.door(door, 0));
            noSuch("worth", x -> x.worth(door, 10));
            noSuch("voids", x -> x.voids(door, 0));
            noSuch("mean", x -> x.mean(door, 3, 2, 1));
            noSuch("pay", x -> x.pay(door, 2, 1));
            noSuch("tax", x -> x.tax(door));
            noSuch("sum, first", x -> x.sum(door, 0, -1));
            noSuch("sum, second", x -> x.sum(0, door, -1));
        }
    }

    private static void noSuchBases() {
        for (int base : new int[] {-1, 41, Integer.MAX_VALUE, Integer.MIN_VALUE}) {
            illegal("worth", x -> x.worth(0, base));
            illegal("span from", x -> x.span(0, base, 40));
            illegal("span to", x -> x.span(0, 0, base));
            illegal("hedge", x -> x.hedge(0, base, base, true));
            illegal("safer", x -> x.safer(base, base, 0));
            illegal("trade", x -> x.trade(base, 0));
        }
        illegal("span, a above b", x -> x.span(0, 20, 19));
        illegal("hedge, a above b", x -> x.hedge(0, 20, 19, false));
        illegal("safer, a above b", x -> x.safer(20, 19, 3));
    }

    private static void noSuchWhat() {
        for (int what : new int[] {-1, 9, 99, Integer.MAX_VALUE, Integer.MIN_VALUE}) {
            noSuch("owner", x -> x.owner(0, what));
            noSuch("door", x -> x.door(0, what));
            noSuch("best", x -> x.best(0, what));
            noSuch("safer", x -> x.safer(0, 40, what));
            noSuch("chalked", x -> x.chalked(what));
            noSuch("voids", x -> x.voids(0, what));
            noSuch("trade", x -> x.trade(0, what));
        }
        noSuch("a figure behind the last", x -> x.door(0, 12));
        noSuch("a sum's figure", x -> x.sum(0, 1, 4));
        noSuch("a sum's figure", x -> x.sum(0, 1, -3));
    }

    private static void noSuchNumbers() {
        illegal("alike: W", x -> x.alike(0, 1));
        illegal("alike: W", x -> x.alike(10000, 1));
        illegal("alike: no bases", x -> x.alike(1, 0));
        illegal("alike: others", x -> x.alike(1, 1 << 30));
        illegal("mean: day", x -> x.mean(0, 9, 0, 0));
        illegal("mean: up", x -> x.mean(0, 8, 11, 0));
        illegal("mean: down", x -> x.mean(0, 8, 0, -1));
        illegal("pay: both", x -> x.pay(0, 5, 6));
    }

    /** Questions that are answered change nothing. */
    private static void questions() {
        Twins.stay("worths", "0", x -> {
            for (int base = 0; base <= 40; base++) {
                x.worth(0, base);
            }
            return x.worth(0, 0);
        });
        Twins.stay("best", "0", x -> 0 * (x.best(0, 0) + x.best(1, 1)));
        Twins.stay("span", "0", x -> x.span(0, 7, 7) + 0 * x.span(1, 0, 40));
        Twins.stay("rests", "0", x -> 0 * x.rests(-1));
        Twins.stay("alike", "1", x -> x.alike(1, 1));
        Twins.stay("hedge", "0", x -> x.hedge(0, 3, 3, true) + 0 * (x.hedge(1, 0, 40, true) + x.hedge(0, 0, 40, false)));
        Twins.stay("safer", "0", x -> 0 * (x.safer(0, 40, 0) + x.safer(2, 9, 1) + x.safer(9, 30, 2) + x.safer(0, 40, 3)));
        Twins.stay("chalked", "1", x -> x.chalked(0) + 0 * x.chalked(1));
        Twins.stay("voids", "-1", x -> x.voids(0, 0) + 0 * x.voids(1, 1));
        Twins.stay("mean", "0", x -> 0 * (x.mean(0, 8, 3, 2) + x.mean(1, 5, 0, 10)));
        Twins.stay("pay", "0", x -> 0 * (x.pay(0, 3, 2) + x.pay(1, 0, 10)));
        Twins.stay("trade", "0", x -> 0 * (x.trade(0, 0) + x.trade(40, 1)));
        Twins.stay("tax", "10", x -> x.tax(0));
        Twins.stay("sum", "0", x -> 0 * (x.sum(0, 1, -1) + x.sum(1, 3, -2) + x.sum(0, 0, 0)));
        Twins.stay("restore", "1", x -> x.restore() ? 1 : 0,
                "count 1", "15", "count 4", "23", "owner 0, 2", "0", "owner 1, 3", "0", "owner 2, 0", "7", "owner 2, 4", "0",
                "least with 2", "13");
    }

    /** Answers behind refused calls are those that they were ahead, whatever rows the refused ones used. */
    private static void refusalsInARow() {
        GoatDoors x = Twins.busy();
        String ahead = answers(x);
        Check.outcome(() -> x.sum(0, 1, 99));
        Check.outcome(() -> x.mean(1, 9, 5, 5));
        Check.outcome(() -> x.hedge(7, 0, 40, true));
        Check.outcome(() -> x.rests(7));
        Check.outcome(() -> x.safer(9, 3, 3));
        Check.outcome(() -> Check.village(x, "owner 20;owner 20;law greatest;door 1 0 #zzzzz;!"));
        Check.outcome(() -> Check.days(x, "rub 0;rub 1;hidden 1 5;census;!"));
        Check.outcome(() -> x.receipt(-1, 1, 1));
        Check.same("answers behind refused calls", ahead, answers(x));
    }

    private static String answers(GoatDoors x) {
        StringBuilder b = new StringBuilder();
        for (int i = -2; i < 3; i++) {
            int at = i;
            b.append(Check.outcome(() -> x.sum(0, 1, at))).append(' ');
            b.append(Check.outcome(() -> x.rests(at))).append(' ');
            b.append(Check.outcome(() -> x.hedge(at, 3, 5, false))).append(' ');
            b.append(Check.outcome(() -> x.mean(0, at + 2, 3, 2))).append(' ');
            b.append(Check.outcome(() -> x.safer(3, 25, at))).append(' ');
            b.append(Check.outcome(() -> x.trade(at + 7, 0))).append(' ');
            b.append(Check.outcome(() -> x.owner(at, 7))).append(' ');
            b.append(Check.outcome(() -> x.pay(at, 1, 7))).append(' ');
        }
        return b.toString();
    }
}
