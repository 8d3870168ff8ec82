import java.util.Map;

/** Two villages that went the same way, of which one is asked something: then both must still be alike. */
final class Twins {
    interface Ask {
        long of(GoatDoors x);
    }

    /** A village that has some of all: law, doors, holes among them, loans, hiding, receipts, an image, refusals. */
    static final String VILLAGE = "owner 9 hides 3;owner 7 hides 5;owner 6;"
            + "door 0 1 #2a;door 1 2 #105;door 2 0 #z;door 0 2 #30;law due;";
    static final String TAPE = "owner 4;owner 5 hides 2;door 1 0 #7;law due;";
    static final int FAULT_PLACE = 7;

    private Twins() {
    }

    /** The tape is left empty. */
    static GoatDoors busy() {
        GoatDoors x = Check.told(VILLAGE);
        Check.days(x, "lent 0 1 2;hidden 1 3;census;born 2 1;lent 0 1 1;hidden 1 2;");
        // Door 0 is worth 36 in bases 6 and 13; by the second receipt only one of them fits, another one now than then.
        x.receipt(1, 36, 0);
        x.receipt(8, 45, 2);
        x.image();
        Check.days(x, "lent 1 2 1;hidden 0 2;rub 2;eaten 2 1;swap 0 9;");
        x.lose();
        x.receipt(8, 18, 0);
        x.receipt(2, 0, 21);
        Check.days(x, "eaten 0 9;");
        Check.days(x, "census;!");
        return x;
    }

    static GoatDoors busyWith(String tape) {
        GoatDoors x = busy();
        Check.feed(x, Check.bytes(tape));
        return x;
    }

    /** Asks one of two twins whose tapes hold a text; then all is as it was, but what is told apart, by name and answer. */
    static void stay(String what, String want, Ask ask, String... apart) {
        stayWith(TAPE, what, want, ask, apart);
    }

    static void stayWith(String tape, String what, String want, Ask ask, String... apart) {
        GoatDoors asked = busyWith(tape);
        Check.same(what, want, Check.outcome(() -> ask.of(asked)));
        Map<String, String> due = Probe.of(busyWith(tape));
        for (int i = 0; i + 1 < apart.length; i += 2) {
            due.put(apart[i], apart[i + 1]);
        }
        Map<String, String> got = Probe.of(asked);
        boolean read = "0".equals(due.get("count 6"));
        for (String name : due.keySet()) {
            // A tape that was read has nothing left to be told.
            if (!read || !name.startsWith("tape: ")) {
                Check.same(what + ", then " + name, due.get(name), String.valueOf(got.get(name)));
            }
        }
    }
}
