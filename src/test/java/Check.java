import java.nio.charset.StandardCharsets;
import java.util.function.LongSupplier;

/** Counts answers that are not due and tells them. */
final class Check {
    static final long NO_SUCH = Long.MIN_VALUE + 1;
    static final long ILLEGAL = Long.MIN_VALUE + 2;

    private static int checked = 0;
    private static int wrong = 0;

    private Check() {
    }

    static void same(String call, long got, long due) {
        checked++;
        if (got != due) {
            wrong++;
            if (wrong <= 50) {
                System.out.println(call + " answered " + show(got) + ", due is " + show(due));
            }
        }
    }

    static int wrong() {
        return wrong;
    }

    private static String show(long answer) {
        return answer == NO_SUCH ? "throws.NoSuchElementException"
            : answer == ILLEGAL ? "throws.IllegalArgumentException" : Long.toString(answer);
    }

    /** An answer, or which exception it was; every other exception is a fault of its own. */
    static long of(LongSupplier call) {
        try {
            return call.getAsLong();
        } catch (java.util.NoSuchElementException e) {
            return NO_SUCH;
        } catch (IllegalArgumentException e) {
            return ILLEGAL;
        }
    }

    static void due(String call, LongSupplier got, long due) {
        same(call, of(got), due);
    }

    /** Five numbers for each feed(), the last ones filled up with blanks. */
    static int[] numbers(String text) {
        byte[] bytes = text.getBytes(StandardCharsets.ISO_8859_1);
        int[] all = new int[(bytes.length + 19) / 20 * 5];
        for (int i = 0; i < all.length * 4; i++) {
            int sign = i < bytes.length ? bytes[i] & 255 : ' ';
            all[i / 4] |= sign << 24 - 8 * (i % 4);
        }
        return all;
    }

    /** Feeds a text and reads it. */
    static int tell(SnowRecorder x, String text) {
        int[] all = numbers(text);
        for (int i = 0; i < all.length; i += 5) {
            x.feed(all[i], all[i + 1], all[i + 2], all[i + 3], all[i + 4]);
        }
        return x.snow(text.length());
    }

    static SnowRecorder on(String text) {
        SnowRecorder x = new SnowRecorder();
        same("snow of " + text, tell(x, text), 0);
        return x;
    }

    static void finish() {
        System.out.println(wrong == 0 ? checked + " answers are as due" : wrong + " of " + checked + " answers are not as due");
        if (wrong != 0) {
            System.exit(1);
        }
    }
}
