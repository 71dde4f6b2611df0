import java.lang.reflect.InvocationTargetException;
import java.lang.reflect.Method;
import java.nio.file.Files;
import java.nio.file.Path;
import java.util.HashMap;
import java.util.LinkedHashSet;
import java.util.Map;
import java.util.NoSuchElementException;
import java.util.Set;
import java.util.regex.Matcher;
import java.util.regex.Pattern;

/**
 * A run of calls on a new object, each written with the answer that is due, for one sentence of the document:
 * "hours(3)=3 gone(9)=NSE 2*undo() restore()=1". NSE is NoSuchElementException, IAE IllegalArgumentException; a boolean
 * counts 1 or 0; 2* calls twice; where no answer is written, none is looked at.
 */
final class Run {
    private static final Path DOCUMENT = Path.of("../shared/DOC.md");
    private static final Pattern CALL = Pattern.compile("(?:(\\d+)\\*)?(\\w+)\\(([^)]*)\\)(?:=(\\S+))?");
    private static final Map<String, Method> FACE = new HashMap<>();
    private static final Set<String> SENTENCES = new LinkedHashSet<>();

    private final String sentence;
    private final StringBuilder past = new StringBuilder();
    final SnowRecorder x = new SnowRecorder();

    private Run(String sentence) {
        this.sentence = sentence;
    }

    /** A run on a new object for a sentence, which is written as in the document. */
    static Run says(String sentence) {
        SENTENCES.add(sentence);
        if (FACE.isEmpty()) {
            for (Method m : SnowRecorder.class.getMethods()) {
                FACE.put(m.getName(), m);
            }
        }
        return new Run(sentence);
    }

    /** A right text. */
    Run tell(String text) {
        return tell(text, 0, SnowRecorder.NONE);
    }

    /** A text with its fault and the fault's place. */
    Run tell(String text, int fault, int place) {
        past.append(" [").append(text).append(']');
        same("snow", Check.tell(x, text), fault);
        same("fault", x.fault(), place);
        return this;
    }

    Run feed(String text) {
        past.append(" [").append(text).append(']');
        int[] all = Check.numbers(text);
        for (int i = 0; i < all.length; i += 5) {
            x.feed(all[i], all[i + 1], all[i + 2], all[i + 3], all[i + 4]);
        }
        return this;
    }

    Run due(String calls) {
        for (String written : calls.trim().split("\\s+")) {
            Matcher m = CALL.matcher(written);
            if (!m.matches() || !FACE.containsKey(m.group(2))) {
                throw new IllegalStateException("not a call: " + written);
            }
            int times = m.group(1) == null ? 1 : Integer.parseInt(m.group(1));
            for (int i = 0; i < times; i++) {
                long got = call(FACE.get(m.group(2)), m.group(3));
                past.append(' ').append(written.replaceAll(".*\\*|=.*", ""));
                if (m.group(4) != null) {
                    same("", got, answer(m.group(4)));
                }
            }
        }
        return this;
    }

    /** The layer as told() has it, sign by sign. */
    Run told(int slope, int layer, String text) {
        StringBuilder got = new StringBuilder();
        int length = x.told(slope, layer, SnowRecorder.NONE);
        for (int i = 0; i < length; i++) {
            got.append((char) x.told(slope, layer, i));
        }
        past.append(" told(").append(slope).append(',').append(layer).append(") is [").append(got).append("], due [").append(text).append(']');
        same("", got.toString().equals(text) ? 1 : 0, 1);
        return this;
    }

    private void same(String what, long got, long due) {
        Check.same("\"" + sentence + "\"" + past + ' ' + what, got, due);
    }

    private static long answer(String written) {
        return written.equals("NSE") ? Check.NO_SUCH : written.equals("IAE") ? Check.ILLEGAL : Long.parseLong(written);
    }

    private long call(Method m, String numbers) {
        String[] written = numbers.isEmpty() ? new String[0] : numbers.split(",");
        Object[] args = new Object[written.length];
        for (int i = 0; i < args.length; i++) {
            args[i] = number(written[i]);
        }
        try {
            Object got = m.invoke(x, args);
            return got == null ? 0 : got instanceof Boolean b ? (b ? 1 : 0) : (Integer) got;
        } catch (InvocationTargetException e) {
            if (e.getCause() instanceof NoSuchElementException) {
                return Check.NO_SUCH;
            }
            if (e.getCause() instanceof IllegalArgumentException) {
                return Check.ILLEGAL;
            }
            throw new IllegalStateException("\"" + sentence + "\"" + past + ' ' + m.getName(), e.getCause());
        } catch (IllegalAccessException e) {
            throw new IllegalStateException(e);
        }
    }

    private static int number(String written) {
        return written.equals("MAX") ? Integer.MAX_VALUE : written.equals("MIN") ? Integer.MIN_VALUE : Integer.parseInt(written);
    }

    /** Tells the sentences that don't stand in the document (any more), and ends the test. */
    static void finish() throws Exception {
        if (Files.isReadable(DOCUMENT)) {
            String document = Files.readString(DOCUMENT).replaceAll("\\s+", " ");
            for (String s : SENTENCES) {
                if (!document.contains(s)) {
                    System.out.println("not in the document: " + s);
                }
            }
        }
        System.out.println(SENTENCES.size() + " sentences");
        Check.finish();
    }
}
