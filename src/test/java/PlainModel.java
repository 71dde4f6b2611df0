import java.util.ArrayList;
import java.util.Collections;
import java.util.HashSet;
import java.util.List;
import java.util.NoSuchElementException;
import java.util.Set;
import java.util.TreeMap;
import java.util.regex.Matcher;
import java.util.regex.Pattern;

/** The document once more, word by word and without any care for room or speed: ModelTest compares with it. */
final class PlainModel {
    static final String[] KIND_WORDS = {"powder", "grains", "facets", "crust", "hoar"};

    static final class Layer {
        int kind;
        long ice;
        long water;
        long depth;
        long temp;
        int age;
        int name;

        Layer copy() {
            Layer c = new Layer();
            c.kind = kind;
            c.ice = ice;
            c.water = water;
            c.depth = depth;
            c.temp = temp;
            c.age = age;
            c.name = name;
            return c;
        }
    }

    static final class Hour {
        int air;
        int fall;
        int much;

        Hour(int air, int fall, int much) {
            this.air = air;
            this.fall = fall;
            this.much = much;
        }
    }

    static final class Slope {
        int steep;
        int open;
        long runoff;
        List<Layer> layers = new ArrayList<>();

        Slope copy() {
            Slope c = new Slope();
            c.steep = steep;
            c.open = open;
            c.runoff = runoff;
            c.layers = copyOf(layers);
            return c;
        }
    }

    static final class Pit {
        int slope;
        int time;
        List<Layer> layers;
    }

    /** All that HOURS and ACTS change, with the PITS. */
    static final class World {
        List<Slope> slopes = new ArrayList<>();
        int time;
        int names;
        long taken;
        long slid;
        int slides;
        List<Pit> pits = new ArrayList<>();

        World copy() {
            World c = new World();
            for (Slope s : slopes) {
                c.slopes.add(s.copy());
            }
            c.time = time;
            c.names = names;
            c.taken = taken;
            c.slid = slid;
            c.slides = slides;
            c.pits = new ArrayList<>(pits);
            return c;
        }
    }

    static final class Image {
        World world;
        List<World> acts;
        List<int[]> notes;
        int[] status;
    }

    static List<Layer> copyOf(List<Layer> layers) {
        List<Layer> c = new ArrayList<>();
        for (Layer l : layers) {
            c.add(l.copy());
        }
        return c;
    }

    private final StringBuilder tape = new StringBuilder();
    private int faultPlace = -1;
    private World now = new World();
    private List<Hour> hourList = new ArrayList<>();
    private long[][] table = defaults();
    private List<World> acts = new ArrayList<>();
    private List<int[]> notes = new ArrayList<>();
    private int[] status = new int[3];
    private Image image = null;

    static long[][] defaults() {
        return new long[][] {{3, 12, 4, 40, 1}, {5, 8, 3, 2, 1}, {1000, 4000, 6000, 9000, 8000}};
    }

    // ---- the text

    static final class Fault extends RuntimeException {
        static final long serialVersionUID = 1;
        final int code;
        final int place;

        Fault(int code, int place) {
            this.code = code;
            this.place = place;
        }
    }

    static final class Token {
        final String text;
        final int place;

        Token(String text, int place) {
            this.text = text;
            this.place = place;
        }

        boolean isNumber() {
            return text.matches("[0-9]+");
        }
    }

    static List<Token> tokens(String text) {
        List<Token> found = new ArrayList<>();
        Matcher m = Pattern.compile("[a-z]+|[0-9]+|[^ \n]", Pattern.DOTALL).matcher(text);
        while (m.find()) {
            found.add(new Token(m.group(), m.start()));
        }
        found.add(new Token("", text.length()));
        return found;
    }

    /** Reads one text; the answer holds what it tells. */
    static final class Parser {
        final List<Token> tokens;
        int next = 0;
        final World world = new World();
        final List<Hour> hours = new ArrayList<>();
        final long[][] table = defaults();
        final Set<String> told = new HashSet<>();

        Parser(String text) {
            tokens = tokens(text);
            while (!tokens.get(next).text.isEmpty()) {
                clause();
            }
        }

        Token take() {
            return tokens.get(next++);
        }

        void clause() {
            Token word = take();
            switch (word.text) {
                case "slope":
                    if (world.slopes.size() == 4) {
                        throw new Fault(2, word.place);
                    }
                    Slope s = new Slope();
                    s.steep = number(0, 90);
                    s.open = number(0, 20);
                    world.slopes.add(s);
                    break;
                case "layer":
                    layer();
                    break;
                case "hour":
                    if (hours.size() == 24) {
                        throw new Fault(2, word.place);
                    }
                    hour();
                    break;
                case "strong":
                    table(0, 0, 99);
                    break;
                case "holds":
                    table(1, 0, 99);
                    break;
                case "stiff":
                    table(2, 1, 9999);
                    break;
                default:
                    throw new Fault(1, word.place);
            }
            Token end = take();
            if (!end.text.equals(";")) {
                throw new Fault(1, end.place);
            }
        }

        void layer() {
            Token at = tokens.get(next);
            int slope = number(0, 3);
            if (slope >= world.slopes.size()) {
                throw new Fault(3, at.place);
            }
            List<Layer> layers = world.slopes.get(slope).layers;
            if (layers.size() == 12) {
                throw new Fault(2, at.place);
            }
            Layer l = new Layer();
            l.kind = kind();
            l.ice = number(1, 99);
            l.water = number(0, 99);
            Token depth = tokens.get(next);
            l.depth = number(1, 999);
            if (l.depth < l.ice + l.water) {
                throw new Fault(5, depth.place);
            }
            l.temp = -number(0, 300);
            l.name = world.names++;
            layers.add(l);
        }

        void hour() {
            int sign = 1;
            if (tokens.get(next).text.equals("-")) {
                sign = -1;
                next++;
            }
            int air = sign * number(0, sign < 0 ? 300 : 100);
            int fall = 0;
            int much = 0;
            String word = tokens.get(next).text;
            if (word.equals("snow") || word.equals("rain")) {
                next++;
                fall = word.equals("snow") ? 1 : 2;
                much = number(1, 50);
            } else if (word.equals("hoar")) {
                next++;
                fall = 3;
            }
            hours.add(new Hour(air, fall, much));
        }

        void table(int row, int least, int most) {
            Token at = tokens.get(next);
            int kind = kind();
            if (!told.add(row + " " + kind)) {
                throw new Fault(4, at.place);
            }
            table[row][kind] = number(least, most);
        }

        int kind() {
            Token t = take();
            for (int k = 0; k < 5; k++) {
                if (t.text.equals(KIND_WORDS[k])) {
                    return k;
                }
            }
            throw new Fault(1, t.place);
        }

        int number(int least, int most) {
            Token t = take();
            if (!t.isNumber()) {
                throw new Fault(1, t.place);
            }
            if (t.text.length() > 4) {
                throw new Fault(2, t.place);
            }
            int v = Integer.parseInt(t.text);
            if (v < least || v > most) {
                throw new Fault(2, t.place);
            }
            return v;
        }
    }

    // ---- an hour

    private Hour hourAt(List<Hour> list, int time) {
        return list.isEmpty() ? new Hour(0, 0, 0) : list.get(time % list.size());
    }

    private boolean comeDown(World w, int slope, Hour h) {
        Slope s = w.slopes.get(slope);
        if (h.fall == 2) {
            if (s.layers.isEmpty()) {
                s.runoff += h.much;
            } else {
                s.layers.get(s.layers.size() - 1).water += h.much;
            }
            return true;
        }
        if (h.fall == 0 || (h.fall == 3 && h.air >= 0)) {
            return false;
        }
        if (s.layers.size() == 12) {
            Layer a = s.layers.get(0);
            Layer b = s.layers.remove(1);
            Layer more = b.ice > a.ice ? b : a;
            int kind = more.kind;
            int name = more.name;
            a.temp = (a.temp * a.ice + b.temp * b.ice) / (a.ice + b.ice);
            a.ice += b.ice;
            a.water += b.water;
            a.depth += b.depth;
            a.age = Math.max(a.age, b.age);
            a.kind = kind;
            a.name = name;
        }
        Layer l = new Layer();
        l.kind = h.fall == 1 ? 0 : 4;
        l.ice = h.fall == 1 ? h.much : 1;
        l.depth = 10 * l.ice;
        l.temp = h.air < 0 ? h.air : 0;
        l.name = w.names++;
        s.layers.add(l);
        return true;
    }

    private void anHour(World w, Hour h) {
        for (int i = 0; i < w.slopes.size(); i++) {
            comeDown(w, i, h);
            Slope s = w.slopes.get(i);
            partB(s, h);
            partC(s.layers);
            partD(s);
            partE(s.layers);
            partF(s.layers, h);
            for (Layer l : s.layers) {
                l.age++;
            }
        }
        w.time++;
    }

    private void partB(Slope s, Hour h) {
        List<Layer> ls = s.layers;
        if (h.air <= 0) {
            if (!ls.isEmpty()) {
                Layer top = ls.get(ls.size() - 1);
                top.temp += (h.air - top.temp) / 4;
            }
            return;
        }
        long heat = (long) h.air * s.open;
        while (heat > 0 && !ls.isEmpty()) {
            Layer top = ls.get(ls.size() - 1);
            long by = heat / top.ice;
            if (top.temp + by > 0) {
                by = -top.temp;
            }
            top.temp += by;
            heat -= by * top.ice;
            if (top.temp == 0) {
                long m = heat / 100;
                if (m > top.ice) {
                    m = top.ice;
                }
                top.ice -= m;
                top.water += m;
                heat -= 100 * m;
            }
            if (top.ice == 0) {
                ls.remove(ls.size() - 1);
                if (ls.isEmpty()) {
                    s.runoff += top.water;
                } else {
                    ls.get(ls.size() - 1).water += top.water;
                }
            } else {
                heat = 0;
            }
        }
    }

    private void partC(List<Layer> ls) {
        long[] change = new long[ls.size()];
        for (int i = 0; i + 1 < ls.size(); i++) {
            long d = (ls.get(i + 1).temp - ls.get(i).temp) / 8;
            change[i + 1] -= d;
            change[i] += d;
        }
        if (!ls.isEmpty()) {
            change[0] -= ls.get(0).temp / 8;
        }
        for (int i = 0; i < ls.size(); i++) {
            ls.get(i).temp = Math.min(0, ls.get(i).temp + change[i]);
        }
    }

    private void partD(Slope s) {
        for (int i = s.layers.size() - 1; i >= 0; i--) {
            Layer l = s.layers.get(i);
            if (l.water > 0 && l.temp < 0) {
                long f = Math.min(l.ice * -l.temp / 100, l.water);
                if (l.water - f > 0) {
                    l.temp = 0;
                } else {
                    l.temp = Math.min(0, l.temp + 100 * f / l.ice);
                }
                l.ice += f;
                l.water -= f;
                if (f > 0) {
                    l.kind = 3;
                }
            }
            long may = l.ice * table[1][l.kind] / 100;
            if (l.water > may) {
                long sinks = l.water - may;
                l.water = may;
                if (i == 0) {
                    s.runoff += sinks;
                } else {
                    s.layers.get(i - 1).water += sinks;
                }
            }
        }
    }

    private static long above(List<Layer> ls, int i) {
        long sum = 0;
        for (int j = i + 1; j < ls.size(); j++) {
            sum += ls.get(j).ice + ls.get(j).water;
        }
        return sum;
    }

    private static long load(List<Layer> ls, int i) {
        return above(ls, i) + (ls.get(i).ice + ls.get(i).water) / 2;
    }

    private void partE(List<Layer> ls) {
        for (int i = 0; i < ls.size(); i++) {
            Layer l = ls.get(i);
            long d = l.depth - l.depth * load(ls, i) / table[2][l.kind];
            l.depth = Math.max(d, l.ice + l.water);
        }
    }

    private static long grade(List<Layer> ls, int i, int air) {
        long up = i == ls.size() - 1 ? Math.min(air, 0) : ls.get(i + 1).temp;
        long down = i == 0 ? 0 : ls.get(i - 1).temp;
        return Math.abs(up - down) * 10 / ls.get(i).depth;
    }

    private void partF(List<Layer> ls, Hour h) {
        int[] becomes = new int[ls.size()];
        for (int i = 0; i < ls.size(); i++) {
            Layer l = ls.get(i);
            int k = l.kind;
            becomes[i] = k;
            if (l.water > 0 && (k == 0 || k == 2 || k == 4)) {
                becomes[i] = 1;
            } else if (l.water == 0 && grade(ls, i, h.air) >= 20) {
                if (k == 0 || k == 1) {
                    becomes[i] = 2;
                }
            } else if (l.water == 0 && l.age >= 24 && (k == 0 || k == 2)) {
                becomes[i] = 1;
            }
        }
        for (int i = 0; i < ls.size(); i++) {
            ls.get(i).kind = becomes[i];
        }
    }

    // ---- strength

    private long strength(Layer l) {
        long s = table[0][l.kind] * (l.ice + l.water) * 10 / l.depth;
        return l.water * 100 >= l.ice * 3 ? s / 2 : s;
    }

    private long ratio(List<Layer> ls, int i, int steep, long extra) {
        long burden = (above(ls, i) + extra) * steep / 100;
        return burden == 0 ? 9999 : Math.min(9999, 100 * strength(ls.get(i)) / burden);
    }

    private int weakest(List<Layer> ls, int steep) {
        int best = -1;
        for (int i = 0; i < ls.size(); i++) {
            if (best < 0 || ratio(ls, i, steep, 0) < ratio(ls, best, steep, 0)) {
                best = i;
            }
        }
        return best;
    }

    private long least(List<Layer> ls, int steep) {
        return ls.isEmpty() ? 9999 : ratio(ls, weakest(ls, steep), steep, 0);
    }

    private boolean unstable(Slope s) {
        return least(s.layers, s.steep) < 100;
    }

    private static long sum(List<Layer> ls, int what) {
        long sum = 0;
        for (Layer l : ls) {
            sum += what == 0 ? l.depth : what == 1 ? l.ice : l.water;
        }
        return sum;
    }

    // ---- the face

    int feed(int a, int b, int c, int d, int e) {
        if (tape.length() + 20 > 900) {
            return -1;
        }
        for (int n : new int[] {a, b, c, d, e}) {
            for (int k = 3; k >= 0; k--) {
                tape.append((char) (n >> 8 * k & 255));
            }
        }
        return tape.length();
    }

    int snow(int n) {
        if (n < 0 || n > tape.length()) {
            throw new IllegalArgumentException();
        }
        String text = tape.substring(0, n);
        tape.setLength(0);
        try {
            Parser p = new Parser(text);
            now = p.world;
            hourList = p.hours;
            table = p.table;
            acts.clear();
            notes.clear();
            image = null;
            faultPlace = -1;
            return 0;
        } catch (Fault f) {
            status[0]++;
            faultPlace = f.place;
            return f.code;
        }
    }

    int fault() {
        return faultPlace;
    }

    int count(int what) {
        long layers = 0;
        long runoff = 0;
        long mass = 0;
        int worst = -1;
        for (int i = 0; i < now.slopes.size(); i++) {
            Slope s = now.slopes.get(i);
            layers += s.layers.size();
            runoff += s.runoff;
            mass += sum(s.layers, 1) + sum(s.layers, 2);
            if (worst < 0 || least(s.layers, s.steep)
                    < least(now.slopes.get(worst).layers, now.slopes.get(worst).steep)) {
                worst = i;
            }
        }
        long[] all = {now.slopes.size(), hourList.size(), now.time, layers, now.names, runoff, now.taken, now.slid,
            now.slides, mass, worst, now.pits.size(), acts.size(), notes.size(), tape.length(),
            status[0], status[1], status[2]};
        return (int) all[index(what, all.length)];
    }

    private static int index(int i, int size) {
        if (i < 0 || i >= size) {
            throw new NoSuchElementException();
        }
        return i;
    }

    int forecast(int hour, int what) {
        Hour h = hourList.get(index(hour, hourList.size()));
        return new int[] {h.air, h.fall, h.much}[index(what, 3)];
    }

    private Slope at(int slope) {
        return now.slopes.get(index(slope, now.slopes.size()));
    }

    int slope(int slope, int what) {
        Slope s = at(slope);
        long[] all = {s.steep, s.open, s.layers.size(), sum(s.layers, 0), sum(s.layers, 1), sum(s.layers, 2), s.runoff,
            weakest(s.layers, s.steep), least(s.layers, s.steep), unstable(s) ? 1 : 0};
        return (int) all[index(what, all.length)];
    }

    int layer(int slope, int layer, int what) {
        Slope s = at(slope);
        int i = index(layer, s.layers.size());
        Layer l = s.layers.get(i);
        long[] all = {l.kind, l.ice, l.water, l.depth, l.temp, l.age, l.name, load(s.layers, i),
            grade(s.layers, i, hourAt(hourList, now.time).air), strength(l), above(s.layers, i) * s.steep / 100,
            ratio(s.layers, i, s.steep, 0)};
        return (int) all[index(what, all.length)];
    }

    int told(int slope, int layer, int i) {
        Slope s = at(slope);
        Layer l = s.layers.get(index(layer, s.layers.size()));
        String text = l.name + " " + KIND_WORDS[l.kind] + " of " + l.ice + (l.water > 0 ? " wet " + l.water : "")
            + " in " + l.depth + " at " + l.temp + ";";
        return i == -1 ? text.length() : text.charAt(index(i, text.length()));
    }

    private int refused(int which) {
        status[which]++;
        return -1;
    }

    private boolean none(int slope) {
        return slope < 0 || slope >= now.slopes.size();
    }

    private void act() {
        acts.add(now.copy());
        if (acts.size() > 40) {
            acts.remove(0);
        }
    }

    int hours(int many) {
        if (many < 1 || many > 24 || now.time + many > 2000) {
            return refused(1);
        }
        act();
        for (int i = 0; i < many; i++) {
            anHour(now, hourAt(hourList, now.time));
        }
        return now.time;
    }

    int fall(int slope, int fall, int much) {
        int air = hourAt(hourList, now.time).air;
        if (none(slope) || fall < 1 || fall > 3 || (fall != 3 && (much < 1 || much > 50)) || (fall == 3 && air >= 0)) {
            return refused(1);
        }
        act();
        comeDown(now, slope, new Hour(air, fall, much));
        return now.slopes.get(slope).layers.size();
    }

    private int digAway(World w, int slope) {
        List<Layer> ls = w.slopes.get(slope).layers;
        if (ls.isEmpty()) {
            return -1;
        }
        Layer top = ls.remove(ls.size() - 1);
        w.taken += top.ice + top.water;
        return top.name;
    }

    int dig(int slope) {
        if (none(slope) || now.slopes.get(slope).layers.isEmpty()) {
            return refused(1);
        }
        act();
        return digAway(now, slope);
    }

    private int slideDown(World w, int slope) {
        Slope s = w.slopes.get(slope);
        int weak = weakest(s.layers, s.steep);
        int gone = 0;
        while (s.layers.size() > weak + 1) {
            Layer l = s.layers.remove(s.layers.size() - 1);
            w.slid += l.ice + l.water;
            gone++;
        }
        w.slides++;
        return gone;
    }

    int slide(int slope) {
        if (none(slope) || !unstable(now.slopes.get(slope))) {
            return refused(1);
        }
        act();
        return slideDown(now, slope);
    }

    int pit(int slope) {
        if (none(slope) || now.pits.size() == 6) {
            return refused(1);
        }
        act();
        Pit p = new Pit();
        p.slope = slope;
        p.time = now.time;
        p.layers = copyOf(now.slopes.get(slope).layers);
        now.pits.add(p);
        return now.pits.size();
    }

    int undo() {
        if (acts.isEmpty()) {
            return -1;
        }
        now = acts.remove(acts.size() - 1);
        return acts.size();
    }

    private World ahead(List<Hour> list, int hours) {
        World w = now.copy();
        for (int i = 0; i < hours; i++) {
            anHour(w, hourAt(list, w.time));
        }
        return w;
    }

    private static void range(int n, int least, int most) {
        if (n < least || n > most) {
            throw new IllegalArgumentException();
        }
    }

    int then(int slope, int hours, int what) {
        index(slope, now.slopes.size());
        index(what, 7);
        range(hours, 0, 72);
        Slope s = ahead(hourList, hours).slopes.get(slope);
        long name = s.layers.isEmpty() ? -1 : s.layers.get(weakest(s.layers, s.steep)).name;
        return (int) new long[] {sum(s.layers, 0), sum(s.layers, 1), sum(s.layers, 2), s.layers.size(),
            least(s.layers, s.steep), name, s.runoff}[what];
    }

    int once(int slope, int what) {
        index(slope, now.slopes.size());
        index(what, 2);
        for (int h = 0; h <= 72; h++) {
            Slope s = ahead(hourList, h).slopes.get(slope);
            if (what == 0 ? unstable(s) : s.layers.isEmpty()) {
                return h;
            }
        }
        return -1;
    }

    int gone(int name) {
        index(name, now.names);
        for (int h = 0; h <= 72; h++) {
            boolean there = false;
            for (Slope s : ahead(hourList, h).slopes) {
                for (Layer l : s.layers) {
                    there |= l.name == name;
                }
            }
            if (!there) {
                return h;
            }
        }
        return -1;
    }

    private int lowestBelow(Slope s, int steep, long extra) {
        for (int i = 0; i < s.layers.size(); i++) {
            if (ratio(s.layers, i, steep, extra) < 100) {
                return i;
            }
        }
        return -1;
    }

    int stands(int slope, int what) {
        Slope s = at(slope);
        index(what, 2);
        int extra = 0;
        for (int taps = 0; taps <= 30; taps++) {
            extra += taps == 0 ? 0 : taps <= 10 ? 1 : taps <= 20 ? 2 : 4;
            int i = lowestBelow(s, s.steep, extra);
            if (i >= 0) {
                return what == 0 ? taps : i;
            }
        }
        return -1;
    }

    int toLoad(int slope) {
        Slope s = at(slope);
        for (int load = 1; load <= 99; load++) {
            if (lowestBelow(s, s.steep, load) >= 0) {
                return load;
            }
        }
        return -1;
    }

    int steepest(int slope) {
        Slope s = at(slope);
        int best = 0;
        for (int steep = 0; steep <= 90; steep++) {
            if (lowestBelow(s, steep, 0) < 0) {
                best = steep;
            }
        }
        return best;
    }

    int toWarm(int slope, int hours) {
        index(slope, now.slopes.size());
        range(hours, 1, 24);
        for (int more = 1; more <= 50; more++) {
            World w = now.copy();
            for (int i = 0; i < hours; i++) {
                Hour h = hourAt(hourList, w.time);
                anHour(w, new Hour(Math.min(100, h.air + more), h.fall, h.much));
                if (unstable(w.slopes.get(slope))) {
                    return more;
                }
            }
        }
        return -1;
    }

    private List<Hour> with(int hour, Hour other) {
        List<Hour> list = new ArrayList<>(hourList);
        list.set(hour, other);
        return list;
    }

    int matters(int slope, int hours, int what) {
        index(slope, now.slopes.size());
        index(what, 2);
        range(hours, 1, 48);
        Slope s = ahead(hourList, hours).slopes.get(slope);
        long usual = least(s.layers, s.steep);
        int which = -1;
        long most = 0;
        for (int i = 0; i < hourList.size(); i++) {
            Slope o = ahead(with(i, new Hour(hourList.get(i).air, 0, 0)), hours).slopes.get(slope);
            long by = Math.abs(least(o.layers, o.steep) - usual);
            if (by > most) {
                which = i;
                most = by;
            }
        }
        return what == 0 ? which : (int) most;
    }

    int pitOf(int pit, int what) {
        Pit p = now.pits.get(index(pit, now.pits.size()));
        return new int[] {p.slope, p.layers.size(), p.time}[index(what, 3)];
    }

    private static int longest(List<Layer> a, List<Layer> b, int i, int j, int[][] memo) {
        if (i == a.size() || j == b.size()) {
            return 0;
        }
        if (memo[i][j] == 0) {
            int best = Math.max(longest(a, b, i + 1, j, memo), longest(a, b, i, j + 1, memo));
            if (a.get(i).kind == b.get(j).kind) {
                best = Math.max(best, 1 + longest(a, b, i + 1, j + 1, memo));
            }
            memo[i][j] = best + 1;
        }
        return memo[i][j] - 1;
    }

    private static int steps(List<Layer> a, List<Layer> b, int i, int j, int[][] memo) {
        if (i == a.size() || j == b.size()) {
            return a.size() - i + b.size() - j;
        }
        if (memo[i][j] == 0) {
            int best = Math.min(steps(a, b, i + 1, j, memo), steps(a, b, i, j + 1, memo)) + 1;
            int change = a.get(i).kind == b.get(j).kind ? 0 : 1;
            best = Math.min(best, change + steps(a, b, i + 1, j + 1, memo));
            memo[i][j] = best + 1;
        }
        return memo[i][j] - 1;
    }

    int compare(int pit, int other, int what) {
        Pit a = now.pits.get(index(pit, now.pits.size()));
        Pit b = now.pits.get(index(other, now.pits.size()));
        index(what, 4);
        if (what == 1) {
            return longest(a.layers, b.layers, 0, 0, new int[12][12]);
        }
        if (what == 2) {
            return steps(a.layers, b.layers, 0, 0, new int[12][12]);
        }
        if (what == 3) {
            int i = weakest(a.layers, now.slopes.get(a.slope).steep);
            int j = weakest(b.layers, now.slopes.get(b.slope).steep);
            return i >= 0 && j >= 0 && a.layers.get(i).name == b.layers.get(j).name ? 1 : 0;
        }
        int both = 0;
        for (Layer x : a.layers) {
            for (Layer y : b.layers) {
                both += x.name == y.name ? 1 : 0;
            }
        }
        return both;
    }

    int nearest(int pit) {
        Pit p = now.pits.get(index(pit, now.pits.size()));
        List<Integer> all = new ArrayList<>();
        for (Slope s : now.slopes) {
            all.add(steps(p.layers, s.layers, 0, 0, new int[12][12]));
        }
        return all.indexOf(Collections.min(all));
    }

    int note(int slope, int hours, int depth) {
        if (notes.size() == 8 || none(slope) || hours < 0 || hours > 48 || depth < 0 || depth > 9999) {
            return refused(2);
        }
        notes.add(new int[] {slope, hours, depth});
        return notes.size();
    }

    private boolean allSo(List<Hour> list) {
        for (int[] n : notes) {
            if (sum(ahead(list, n[1]).slopes.get(n[0]).layers, 0) != n[2]) {
                return false;
            }
        }
        return true;
    }

    private List<int[]> suiting() {
        List<int[]> found = new ArrayList<>();
        for (int i = 0; i < hourList.size(); i++) {
            Hour h = hourList.get(i);
            for (int m = 1; m <= 50; m++) {
                if ((h.fall == 1 || h.fall == 2) && m != h.much && allSo(with(i, new Hour(h.air, h.fall, m)))) {
                    found.add(new int[] {i, m});
                }
            }
        }
        return found;
    }

    int falls(int what) {
        index(what, 3);
        if (what == 2) {
            return allSo(hourList) ? 1 : 0;
        }
        List<int[]> found = suiting();
        if (what == 0) {
            return found.size();
        }
        return found.isEmpty() ? -1 : 100 * found.get(0)[0] + found.get(0)[1];
    }

    int look(int what) {
        index(what, 2);
        List<int[]> found = suiting();
        if (found.isEmpty() || now.slopes.isEmpty()) {
            return what == 0 ? -1 : 0;
        }
        TreeMap<Integer, Set<Long>> seen = new TreeMap<>();
        for (int[] f : found) {
            Hour h = hourList.get(f[0]);
            World w = ahead(with(f[0], new Hour(h.air, h.fall, f[1])), 24);
            for (int i = 0; i < w.slopes.size(); i++) {
                seen.computeIfAbsent(i, k -> new HashSet<>()).add(sum(w.slopes.get(i).layers, 0));
            }
        }
        int which = 0;
        for (int i = 1; i < now.slopes.size(); i++) {
            if (seen.get(i).size() > seen.get(which).size()) {
                which = i;
            }
        }
        return what == 0 ? which : seen.get(which).size();
    }

    void forget() {
        notes.clear();
    }

    private long oddsOf(World w, int slope, int left, int tenths) {
        if (left == 0) {
            return unstable(w.slopes.get(slope)) ? 1 : 0;
        }
        Hour h = hourAt(hourList, w.time);
        World with = w.copy();
        World without = w.copy();
        anHour(with, h);
        anHour(without, new Hour(h.air, 0, 0));
        return (10 - tenths) * oddsOf(with, slope, left - 1, tenths) + tenths * oddsOf(without, slope, left - 1, tenths);
    }

    int odds(int slope, int hours, int tenths) {
        index(slope, now.slopes.size());
        range(hours, 1, 6);
        range(tenths, 0, 10);
        return (int) oddsOf(now, slope, hours, tenths);
    }

    private int seed;

    private int draw(int n) {
        seed = seed * 1103515245 + 12345;
        return (seed >> 16 & 32767) % n;
    }

    int years(int from, int n, int what) {
        index(what, 3);
        range(n, 0, 30);
        seed = from;
        World w = now.copy();
        int slides = 0;
        for (int i = 0; i < n; i++) {
            int c = draw(6);
            if (c < 2) {
                int many = draw(6) + 1;
                for (int k = 0; k < many; k++) {
                    anHour(w, hourAt(hourList, w.time));
                }
            } else if (c == 5) {
                for (int s = 0; s < w.slopes.size(); s++) {
                    if (unstable(w.slopes.get(s))) {
                        slideDown(w, s);
                        slides++;
                    }
                }
            } else if (!w.slopes.isEmpty()) {
                int s = draw(w.slopes.size());
                if (c == 4) {
                    digAway(w, s);
                } else {
                    comeDown(w, s, new Hour(hourAt(hourList, w.time).air, c - 1, draw(20) + 1));
                }
            }
        }
        long depth = 0;
        for (Slope s : w.slopes) {
            depth += sum(s.layers, 0);
        }
        return (int) new long[] {slides, w.slid - now.slid, depth}[what];
    }

    void image() {
        image = new Image();
        image.world = now.copy();
        image.acts = new ArrayList<>();
        for (World w : acts) {
            image.acts.add(w.copy());
        }
        image.notes = new ArrayList<>(notes);
        image.status = status.clone();
    }

    boolean restore() {
        if (image == null) {
            return false;
        }
        now = image.world.copy();
        acts = new ArrayList<>();
        for (World w : image.acts) {
            acts.add(w.copy());
        }
        notes = new ArrayList<>(image.notes);
        status = image.status.clone();
        return true;
    }
}
