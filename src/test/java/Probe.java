import java.util.LinkedHashMap;
import java.util.Map;

/** All that can be told from outside of an object: what it is asked empties its tape and makes a new village of it. */
final class Probe {
    private final GoatDoors x;
    private final Map<String, String> answers = new LinkedHashMap<>();

    private Probe(GoatDoors x) {
        this.x = x;
    }

    static Map<String, String> of(GoatDoors x) {
        Probe p = new Probe(x);
        p.state("");
        p.receipts("");
        p.image();
        p.tape();
        return p.answers;
    }

    private void put(String what, Check.Call call) {
        answers.put(what, Check.outcome(call));
    }

    private void state(String when) {
        for (int i = 0; i < 10; i++) {
            int what = i;
            put(when + "count " + i, () -> x.count(what));
        }
        put(when + "fault", x::fault);
        for (int i = 0; i < x.count(0); i++) {
            for (int j = 0; j < 5; j++) {
                int owner = i;
                int what = j;
                put(when + "owner " + i + ", " + j, () -> x.owner(owner, what));
            }
        }
        for (int i = 0; i < 10; i++) {
            if ((x.count(1) >> i & 1) != 0) {
                aDoor(when, i);
            }
        }
    }

    private void aDoor(String when, int door) {
        for (int i = 0; i < 3; i++) {
            int what = i;
            put(when + "door " + door + ", " + i, () -> x.door(door, what));
        }
        for (int i = 10; i < 10 + x.door(door, 2); i++) {
            int what = i;
            put(when + "door " + door + ", " + i, () -> x.door(door, what));
        }
    }

    /** Each receipt is told by what fits as long as it is there, and no more when it is lost. */
    private void receipts(String when) {
        int size = x.count(5);
        for (int i = size; i > 0; i--) {
            put(when + "fit with " + i, () -> x.chalked(0));
            put(when + "least with " + i, () -> x.chalked(1));
            put(when + "lose of " + i, x::lose);
        }
        put(when + "fit with 0", () -> x.chalked(0));
    }

    private void image() {
        put("restore", () -> x.restore() ? 1 : 0);
        if (answers.get("restore").equals("1")) {
            state("image: ");
            receipts("image: ");
        }
    }

    private void tape() {
        int n = x.count(6);
        put("tape: village", () -> x.village(n));
        state("tape: ");
    }
}
