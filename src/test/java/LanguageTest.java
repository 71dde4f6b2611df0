import java.lang.management.ManagementFactory;
import java.lang.reflect.Field;
import java.lang.reflect.Method;
import java.lang.reflect.Modifier;
import java.nio.file.Files;
import java.nio.file.Path;
import java.util.ArrayList;
import java.util.Arrays;
import java.util.Collections;
import java.util.HashSet;
import java.util.List;
import java.util.Random;
import java.util.Set;
import java.util.regex.Matcher;
import java.util.regex.Pattern;

/** Rules of LANGUAGE.md that can be seen from outside: the face, words that may not stand, the room, wild calls. */
public final class LanguageTest {
    private static final String FACE = "feed/5 snow/1 fault/0 count/1 forecast/2 slope/2 layer/3 told/3 hours/1 fall/3 dig/1 slide/1 pit/1 undo/0 "
        + "then/3 once/2 gone/1 stands/2 toLoad/1 steepest/1 toWarm/2 matters/3 pitOf/2 compare/3 nearest/1 note/3 falls/1 look/1 forget/0 odds/3 "
        + "years/3 image/0 restore/0";

    public static void main(String[] args) throws Exception {
        theFace();
        theWords();
        theRoom();
        wildCalls();
        Check.finish();
    }

    private static void right(String what, boolean so) {
        Check.same(what, so ? 1 : 0, 1);
    }

    private static void theFace() {
        List<String> seen = new ArrayList<>();
        Set<String> names = new HashSet<>();
        for (Method m : SnowRecorder.class.getDeclaredMethods()) {
            if (Modifier.isPublic(m.getModifiers())) {
                seen.add(m.getName() + "/" + m.getParameterCount());
                names.add(m.getName());
            } else {
                right(m + " is private", Modifier.isPrivate(m.getModifiers()));
            }
        }
        List<String> due = new ArrayList<>(Arrays.asList(FACE.split(" ")));
        Collections.sort(due);
        Collections.sort(seen);
        right("the face is " + seen, due.equals(seen));
        right("it is final", Modifier.isFinal(SnowRecorder.class.getModifiers()));
        for (Field f : SnowRecorder.class.getDeclaredFields()) {
            right(f + " is private", f.getName().equals("NONE") || Modifier.isPrivate(f.getModifiers()));
        }
        List<Class<?>> all = new ArrayList<>(List.of(SnowRecorder.class));
        all.addAll(Arrays.asList(SnowRecorder.class.getDeclaredClasses()));
        right("some twelve classes", all.size() <= 12);
        for (Class<?> c : all) {
            int fields = 0;
            for (Field f : c.getDeclaredFields()) {
                fields += Modifier.isStatic(f.getModifiers()) ? 0 : 1;
                right(f + " is final", !Modifier.isStatic(f.getModifiers()) || Modifier.isFinal(f.getModifiers()));
            }
            right(c + " has some twenty fields", fields <= 20);
            for (Method m : c.getDeclaredMethods()) {
                right(m + " takes at most seven", m.getParameterCount() <= 7);
                right(m + " bears no name of the face", c == SnowRecorder.class && Modifier.isPublic(m.getModifiers())
                    || !names.contains(m.getName()));
            }
        }
    }

    private static void theWords() throws Exception {
        String source = Files.readString(Path.of("src/main/java/SnowRecorder.java"));
        String code = source.replaceAll("(?s)/\\*.*?\\*/", "").replaceAll("//[^\n]*", "");
        for (String word : new String[] {"try", "catch", "finally", "synchronized", "assert", "instanceof", "->", "::", "package", "Exact",
            "static \\{", "double", "float", "String\\[", "System\\.(?!arraycopy)", "Math\\.(?!min|max|abs|floorMod)"}) {
            right("'" + word + "' doesn't stand there", !Pattern.compile(Character.isLetter(word.charAt(0)) ? "\\b" + word : word).matcher(code).find());
        }
        Matcher imports = Pattern.compile("import ([^;]*);").matcher(code);
        while (imports.find()) {
            right("import " + imports.group(1), imports.group(1).equals("java.util.NoSuchElementException"));
        }
        right("signs 1 to 127", source.chars().allMatch(c -> c > 0 && c < 128));
        methodsStayShort(source);
    }

    private static void methodsStayShort(String source) {
        String[] lines = source.split("\n");
        int start = -1;
        for (int i = 0; i < lines.length; i++) {
            if (lines[i].matches("( {4}| {8})(public |private |static |final )*[A-Za-z\\[\\]]+ [A-Za-z]+\\(.*") && !lines[i].contains(" class ")) {
                start = i;
            }
            if (start >= 0 && lines[i].matches(lines[start].replaceAll("[^ ].*", "") + "}")) {
                right("line " + (start + 1) + ": " + (i - start) + " lines", i - start < 60);
                start = -1;
            }
        }
    }

    private static long allocated() {
        return ((com.sun.management.ThreadMXBean) ManagementFactory.getThreadMXBean()).getThreadAllocatedBytes(Thread.currentThread().getId());
    }

    private static void theRoom() {
        String text = "slope 50 5;slope 40 5;slope 60 5;slope 30 9;layer 0 hoar 1 0 10 0;" + "hour -9 snow 5;hour 3 rain 4;".repeat(12);
        SnowRecorder warm = Check.on(text);
        warm.told(0, 0, 0);
        long before = allocated();
        SnowRecorder x = new SnowRecorder();
        long made = allocated() - before;
        right("an object takes " + made + " bytes", made < 400000);
        Check.tell(x, text);
        before = allocated();
        for (int i = 0; i < 10; i++) {
            x.hours(1);
            x.fall(0, 1, 5);
            x.pit(0);
            x.slide(0);
            x.undo();
            x.image();
            x.restore();
            x.then(0, 72, 0);
            x.once(0, 1);
            x.gone(0);
            x.toWarm(0, 24);
            x.matters(0, 48, 0);
            x.compare(0, 0, 1);
            x.note(0, 1, 1);
            x.falls(0);
            x.forget();
            x.look(0);
            x.odds(0, 6, 5);
            x.years(1, 30, 0);
            x.told(0, 0, 0);
        }
        long used = allocated() - before;
        right("two hundred calls take " + used + " bytes", used < 20000);
    }

    private static int wild(Random random) {
        switch (random.nextInt(6)) {
            case 0: return random.nextInt();
            case 1: return Integer.MIN_VALUE;
            case 2: return Integer.MAX_VALUE;
            case 3: return -1;
            default: return random.nextInt(60);
        }
    }

    /** Nothing but the two exceptions of the document may come out, whatever is asked; Check.of lets all others through. */
    private static void wildCalls() throws Exception {
        Method[] all = SnowRecorder.class.getMethods();
        Arrays.sort(all, (a, b) -> a.getName().compareTo(b.getName()));
        for (int run = 0; run < 60; run++) {
            Random random = new Random(run);
            SnowRecorder x = new SnowRecorder();
            Check.tell(x, "slope 50 5;slope 90 20;layer 0 hoar 1 0 10 0;hour -9 snow 5;hour 3 rain 4;");
            for (int i = 0; i < 400; i++) {
                Method m = all[random.nextInt(all.length)];
                if (m.getDeclaringClass() == SnowRecorder.class && !(m.getName().equals("snow") && random.nextInt(4) > 0)) {
                    wildCall(x, m, random);
                }
            }
        }
    }

    private static void wildCall(SnowRecorder x, Method m, Random random) throws Exception {
        Object[] args = new Object[m.getParameterCount()];
        for (int i = 0; i < args.length; i++) {
            args[i] = wild(random);
        }
        try {
            m.invoke(x, args);
        } catch (java.lang.reflect.InvocationTargetException e) {
            boolean due = Arrays.asList(m.getExceptionTypes()).contains(e.getCause().getClass());
            right(m + " " + Arrays.toString(args) + " throws " + e.getCause(), due);
        }
    }
}
