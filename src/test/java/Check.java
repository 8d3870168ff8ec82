import java.nio.charset.StandardCharsets;
import java.util.Arrays;
import java.util.NoSuchElementException;

/** What all tests share: counting wrong answers, and telling texts to a village. */
final class Check {
    interface Call {
        long answer();
    }

    static final String NO_SUCH = "throws.NoSuchElementException";
    static final String ILLEGAL = "throws.IllegalArgumentException";

    private static int wrong = 0;

    private Check() {
    }

    static String outcome(Call call) {
        try {
            return Long.toString(call.answer());
        } catch (NoSuchElementException e) {
            return NO_SUCH;
        } catch (RuntimeException e) {
            return "throws." + e.getClass().getSimpleName();
        }
    }

    static void due(String what, long want, Call call) {
        same(what, Long.toString(want), outcome(call));
    }

    static void noSuch(String what, Call call) {
        same(what, NO_SUCH, outcome(call));
    }

    static void illegal(String what, Call call) {
        same(what, ILLEGAL, outcome(call));
    }

    static void same(String what, String want, String got) {
        if (!want.equals(got)) {
            wrong++;
            System.out.println(what + " answered " + got + ", due is " + want);
        }
    }

    static void feed(GoatDoors x, byte[] text) {
        byte[] padded = Arrays.copyOf(text, (text.length + 19) / 20 * 20);
        Arrays.fill(padded, text.length, padded.length, (byte) 32);
        for (int i = 0; i < padded.length; i += 20) {
            x.feed(number(padded, i), number(padded, i + 4), number(padded, i + 8),
                    number(padded, i + 12), number(padded, i + 16));
        }
    }

    private static int number(byte[] bytes, int at) {
        return (bytes[at] & 255) << 24 | (bytes[at + 1] & 255) << 16 | (bytes[at + 2] & 255) << 8 | bytes[at + 3] & 255;
    }

    static byte[] bytes(String text) {
        return text.getBytes(StandardCharsets.ISO_8859_1);
    }

    static int village(GoatDoors x, String text) {
        feed(x, bytes(text));
        return x.village(text.length());
    }

    static int days(GoatDoors x, String text) {
        feed(x, bytes(text));
        return x.days(text.length());
    }

    static GoatDoors told(String text) {
        GoatDoors x = new GoatDoors();
        due("village " + text, 0, () -> village(x, text));
        return x;
    }

    static void end() {
        if (wrong != 0) {
            System.out.println(wrong + " answers are not as due");
            System.exit(1);
        }
    }
}
