import java.util.NoSuchElementException;

/** A recorder of snow on slopes; README.md says how to use it. */
public final class SnowRecorder {
    public static final int NONE = -1;

    private static final int MOST_BYTES = 900;
    private static final int MOST_SLOPES = 4;
    private static final int MOST_LAYERS = 12;
    private static final int MOST_HOURS = 24;
    private static final int MOST_TIME = 2000;
    private static final int MOST_MUCH = 50;
    private static final int MOST_ACTS = 40;
    private static final int MOST_PITS = 6;
    private static final int MOST_NOTES = 8;
    private static final int MOST_NOTED_HOURS = 48;
    private static final int MOST_NOTED_DEPTH = 9999;
    private static final int MOST_AHEAD = 72;
    private static final int MOST_TAPS = 30;
    private static final int MOST_LOAD = 99;
    private static final int MOST_STEEP = 90;
    private static final int MOST_OPEN = 20;
    private static final int MOST_WARMER = 50;
    private static final int MOST_MATTERS_HOURS = 48;
    private static final int MOST_ODDS_HOURS = 6;
    private static final int MOST_YEARS = 30;
    private static final int LOOK_HOURS = 24;
    private static final int MOST_AIR = 100;
    private static final int MOST_COLD = 300;
    private static final int MOST_RATIO = 9999;
    private static final int STABLE_RATIO = 100;

    private static final int POWDER = 0;
    private static final int GRAINS = 1;
    private static final int FACETS = 2;
    private static final int CRUST = 3;
    private static final int HOAR = 4;
    private static final int KINDS = 5;

    private static final int NO_FALL = 0;
    private static final int SNOW_FALL = 1;
    private static final int RAIN_FALL = 2;
    private static final int HOAR_FALL = 3;

    // Where each field's row of LAYERS begins in the cells of a Pack.
    private static final int KIND = 0;
    private static final int ICE = MOST_LAYERS;
    private static final int WATER = 2 * MOST_LAYERS;
    private static final int DEPTH = 3 * MOST_LAYERS;
    private static final int TEMP = 4 * MOST_LAYERS;
    private static final int AGE = 5 * MOST_LAYERS;
    private static final int NAME = 6 * MOST_LAYERS;
    private static final int CELLS = 7 * MOST_LAYERS;

    // Where each row of KINDS begins in the TABLE.
    private static final int STRONG = 0;
    private static final int HOLDS = KINDS;
    private static final int STIFF = 2 * KINDS;
    private static final int[] TABLE = {
        3, 12, 4, 40, 1,
        5, 8, 3, 2, 1,
        1000, 4000, 6000, 9000, 8000,
    };

    private static final int REFUSED_TEXT = 0;
    private static final int REFUSED_ACT = 1;
    private static final int REFUSED_NOTE = 2;
    private static final int STATUSES = 3;

    private final byte[] tape = new byte[MOST_BYTES];
    private int tapeSize = 0;
    private int faultPlace = NONE;
    private final TextReader reader = new TextReader();
    private final Plan plan = new Plan();
    private final State state = new State();
    private final State kept = new State();
    private boolean imaged = false;

    // Rooms for questions, made once and used again by every call.
    private final Plan otherPlan = new Plan();
    private final World trial = new World();
    private final World lead = new World();
    private final Guesses guesses = new Guesses();
    private final Likeness likeness = new Likeness();
    private final StringBuilder line = new StringBuilder();

    public SnowRecorder() {
    }

    public int feed(int a, int b, int c, int d, int e) {
        if (tapeSize + 20 > MOST_BYTES) {
            return NONE;
        }
        putBytes(a);
        putBytes(b);
        putBytes(c);
        putBytes(d);
        putBytes(e);
        return tapeSize;
    }

    public int snow(int n) throws IllegalArgumentException {
        if (n < 0 || n > tapeSize) {
            throw new IllegalArgumentException("the tape has not so many bytes");
        }
        // It is read into the rooms for questions, so that all stays if it has a FAULT.
        int code = reader.read(tape, n, otherPlan, trial);
        tapeSize = 0;
        faultPlace = reader.place;
        if (code != 0) {
            state.refused[REFUSED_TEXT]++;
            return code;
        }
        plan.copyFrom(otherPlan);
        state.beginWith(trial);
        imaged = false;
        return 0;
    }

    public int fault() {
        return faultPlace;
    }

    public int count(int what) throws NoSuchElementException {
        World now = state.now;
        switch (what) {
            case 0: return plan.slopes;
            case 1: return plan.hours;
            case 2: return now.time;
            case 3: return now.layers();
            case 4: return now.names;
            case 5: return now.runoff();
            case 6: return now.taken;
            case 7: return now.slid;
            case 8: return now.slides;
            case 9: return now.sum(ICE) + now.sum(WATER);
            case 10: return worst();
            case 11: return now.pits;
            case 12: return state.acts;
            case 13: return state.notes.size;
            case 14: return tapeSize;
            case 15: return state.refused[REFUSED_TEXT];
            case 16: return state.refused[REFUSED_ACT];
            case 17: return state.refused[REFUSED_NOTE];
            default: throw new NoSuchElementException("no such count");
        }
    }

    public int forecast(int hour, int what) throws NoSuchElementException {
        if (hour < 0 || hour >= plan.hours) {
            throw new NoSuchElementException("no such hour");
        }
        switch (what) {
            case 0: return plan.air[hour];
            case 1: return plan.fall[hour];
            case 2: return plan.much[hour];
            default: throw new NoSuchElementException("no such thing of an hour");
        }
    }

    public int slope(int slope, int what) throws NoSuchElementException {
        Pack pack = packOf(slope);
        int steep = plan.steep[slope];
        switch (what) {
            case 0: return steep;
            case 1: return plan.open[slope];
            case 2: return pack.size;
            case 3: return pack.sum(DEPTH);
            case 4: return pack.sum(ICE);
            case 5: return pack.sum(WATER);
            case 6: return pack.runoff;
            case 7: return pack.weakest(steep, plan);
            case 8: return pack.leastRatio(steep, plan);
            case 9: return pack.lowestUnstable(steep, 0, plan) != NONE ? 1 : 0;
            default: throw new NoSuchElementException("no such thing of a slope");
        }
    }

    public int layer(int slope, int layer, int what) throws NoSuchElementException {
        Pack pack = packOf(slope);
        needLayer(pack, layer);
        int steep = plan.steep[slope];
        switch (what) {
            case 0: return pack.cells[KIND + layer];
            case 1: return pack.cells[ICE + layer];
            case 2: return pack.cells[WATER + layer];
            case 3: return pack.cells[DEPTH + layer];
            case 4: return pack.cells[TEMP + layer];
            case 5: return pack.cells[AGE + layer];
            case 6: return pack.cells[NAME + layer];
            case 7: return pack.massAbove(layer) + pack.mass(layer) / 2;
            case 8: return pack.grade(layer, plan.airAt(state.now.time));
            case 9: return pack.strength(layer, plan);
            case 10: return burden(pack.massAbove(layer), steep);
            case 11: return pack.ratio(layer, burden(pack.massAbove(layer), steep), plan);
            default: throw new NoSuchElementException("no such thing of a layer");
        }
    }

    public int told(int slope, int layer, int i) throws NoSuchElementException {
        Pack pack = packOf(slope);
        needLayer(pack, layer);
        writeLine(pack, layer);
        if (i == NONE) {
            return line.length();
        }
        if (i < 0 || i >= line.length()) {
            throw new NoSuchElementException("no such sign");
        }
        return line.charAt(i);
    }

    public int hours(int many) {
        if (many < 1 || many > MOST_HOURS || state.now.time + many > MOST_TIME) {
            return refuse(REFUSED_ACT);
        }
        state.keepAct();
        for (int i = 0; i < many; i++) {
            state.now.hour(plan, plan.allSlopes(), true);
        }
        return state.now.time;
    }

    public int fall(int slope, int fall, int much) {
        if (!isSlope(slope) || !comesByHand(fall, much)) {
            return refuse(REFUSED_ACT);
        }
        state.keepAct();
        state.now.fallOn(slope, fall, much, plan.airAt(state.now.time));
        return state.now.packs[slope].size;
    }

    public int dig(int slope) {
        if (!isSlope(slope) || state.now.packs[slope].size == 0) {
            return refuse(REFUSED_ACT);
        }
        state.keepAct();
        return state.now.digOn(slope);
    }

    public int slide(int slope) {
        if (!isSlope(slope) || !isUnstable(state.now, slope)) {
            return refuse(REFUSED_ACT);
        }
        state.keepAct();
        return state.now.slideOn(slope, plan);
    }

    public int pit(int slope) {
        if (!isSlope(slope) || state.now.pits >= MOST_PITS) {
            return refuse(REFUSED_ACT);
        }
        state.keepAct();
        state.keepPit(slope);
        return state.now.pits;
    }

    public int undo() {
        if (state.acts == 0) {
            return NONE;
        }
        state.takeBack();
        return state.acts;
    }

    public int then(int slope, int hours, int what)
            throws NoSuchElementException, IllegalArgumentException {
        needSlope(slope);
        needWhat(what, 6);
        needHours(hours, 0, MOST_AHEAD);
        trial.copyFrom(state.now);
        // All SLOPES go on, for they take their NAMES from one row.
        for (int i = 0; i < hours; i++) {
            trial.hour(plan, plan.allSlopes(), true);
        }
        Pack pack = trial.packs[slope];
        int steep = plan.steep[slope];
        switch (what) {
            case 0: return pack.sum(DEPTH);
            case 1: return pack.sum(ICE);
            case 2: return pack.sum(WATER);
            case 3: return pack.size;
            case 4: return pack.leastRatio(steep, plan);
            case 5: return pack.nameOf(pack.weakest(steep, plan));
            default: return pack.runoff;
        }
    }

    public int once(int slope, int what) throws NoSuchElementException {
        needSlope(slope);
        needWhat(what, 1);
        trial.copyFrom(state.now);
        for (int i = 0; i <= MOST_AHEAD; i++) {
            boolean so = what == 0 ? isUnstable(trial, slope) : trial.packs[slope].size == 0;
            if (so) {
                return i;
            }
            trial.hour(plan, 1 << slope, true);
        }
        return NONE;
    }

    public int gone(int name) throws NoSuchElementException {
        if (name < 0 || name >= state.now.names) {
            throw new NoSuchElementException("that name isn't given");
        }
        trial.copyFrom(state.now);
        for (int i = 0; i <= MOST_AHEAD; i++) {
            if (!trial.has(name)) {
                return i;
            }
            trial.hour(plan, plan.allSlopes(), true);
        }
        return NONE;
    }

    public int stands(int slope, int what) throws NoSuchElementException {
        Pack pack = packOf(slope);
        needWhat(what, 1);
        for (int taps = 0; taps <= MOST_TAPS; taps++) {
            int lowest = pack.lowestUnstable(plan.steep[slope], extraOf(taps), plan);
            if (lowest != NONE) {
                return what == 0 ? taps : lowest;
            }
        }
        return NONE;
    }

    public int toLoad(int slope) throws NoSuchElementException {
        Pack pack = packOf(slope);
        for (int load = 1; load <= MOST_LOAD; load++) {
            if (pack.lowestUnstable(plan.steep[slope], load, plan) != NONE) {
                return load;
            }
        }
        return NONE;
    }

    public int steepest(int slope) throws NoSuchElementException {
        Pack pack = packOf(slope);
        for (int steep = MOST_STEEP; steep > 0; steep--) {
            if (pack.lowestUnstable(steep, 0, plan) == NONE) {
                return steep;
            }
        }
        return 0;
    }

    public int toWarm(int slope, int hours)
            throws NoSuchElementException, IllegalArgumentException {
        needSlope(slope);
        needHours(hours, 1, MOST_HOURS);
        for (int more = 1; more <= MOST_WARMER; more++) {
            otherPlan.copyFrom(plan);
            otherPlan.warm(more);
            if (isOnceUnstable(slope, hours)) {
                return more;
            }
        }
        return NONE;
    }

    public int matters(int slope, int hours, int what)
            throws NoSuchElementException, IllegalArgumentException {
        needSlope(slope);
        needWhat(what, 1);
        needHours(hours, 1, MOST_MATTERS_HOURS);
        otherPlan.copyFrom(plan);
        int usual = otherRatio(slope, hours);
        int which = NONE;
        int most = 0;
        for (int hour = 0; hour < plan.hours; hour++) {
            if (plan.fall[hour] != NO_FALL) {
                otherPlan.fall[hour] = NO_FALL;
                int change = Math.abs(otherRatio(slope, hours) - usual);
                otherPlan.fall[hour] = plan.fall[hour];
                if (change > most) {
                    which = hour;
                    most = change;
                }
            }
        }
        return what == 0 ? which : most;
    }

    public int pitOf(int pit, int what) throws NoSuchElementException {
        needPit(pit);
        switch (what) {
            case 0: return state.pits[pit].slope;
            case 1: return state.pits[pit].pack.size;
            case 2: return state.pits[pit].time;
            default: throw new NoSuchElementException("no such thing of a pit");
        }
    }

    public int compare(int pit, int other, int what) throws NoSuchElementException {
        needPit(pit);
        needPit(other);
        Pack one = state.pits[pit].pack;
        Pack two = state.pits[other].pack;
        switch (what) {
            case 0: return one.namesIn(two);
            case 1: return likeness.longestRow(one, two);
            case 2: return likeness.fewestSteps(one, two);
            case 3: return isSameWeakest(state.pits[pit], state.pits[other]) ? 1 : 0;
            default: throw new NoSuchElementException("no such comparison");
        }
    }

    public int nearest(int pit) throws NoSuchElementException {
        needPit(pit);
        int which = NONE;
        int fewest = 0;
        for (int slope = 0; slope < plan.slopes; slope++) {
            int steps = likeness.fewestSteps(state.now.packs[slope], state.pits[pit].pack);
            if (which == NONE || steps < fewest) {
                which = slope;
                fewest = steps;
            }
        }
        return which;
    }

    public int note(int slope, int hours, int depth) {
        boolean right = isSlope(slope) && hours >= 0 && hours <= MOST_NOTED_HOURS
                && depth >= 0 && depth <= MOST_NOTED_DEPTH;
        if (!right || state.notes.size >= MOST_NOTES) {
            return refuse(REFUSED_NOTE);
        }
        state.notes.add(slope, hours, depth);
        return state.notes.size;
    }

    public int falls(int what) throws NoSuchElementException {
        needWhat(what, 2);
        if (what == 2) {
            trial.copyFrom(state.now);
            boolean so = isNotedSo(trial, plan, plan.allSlopes(), 0, state.notes.lastHour());
            return so ? 1 : 0;
        }
        guessFalls(false);
        return what == 0 ? guesses.many : guesses.first;
    }

    public int look(int what) throws NoSuchElementException {
        needWhat(what, 1);
        guessFalls(true);
        int which = NONE;
        int most = 0;
        for (int slope = 0; slope < plan.slopes; slope++) {
            if (guesses.unlike[slope] > most) {
                which = slope;
                most = guesses.unlike[slope];
            }
        }
        return what == 0 ? which : most;
    }

    public void forget() {
        state.notes.size = 0;
    }

    public int odds(int slope, int hours, int tenths)
            throws NoSuchElementException, IllegalArgumentException {
        needSlope(slope);
        needHours(hours, 1, MOST_ODDS_HOURS);
        if (tenths < 0 || tenths > 10) {
            throw new IllegalArgumentException("tenths are 0 to 10");
        }
        int chance = 0;
        for (int missing = 0; missing < 1 << hours; missing++) {
            int weight = weightOf(missing, hours, tenths);
            if (weight > 0 && isUnstableWithout(missing, slope, hours)) {
                chance += weight;
            }
        }
        return chance;
    }

    public int years(int seed, int n, int what)
            throws NoSuchElementException, IllegalArgumentException {
        needWhat(what, 2);
        if (n < 0 || n > MOST_YEARS) {
            throw new IllegalArgumentException("years are 0 to 30");
        }
        trial.copyFrom(state.now);
        int drawn = seed;
        for (int i = 0; i < n; i++) {
            drawn = yearGoesBy(drawn);
        }
        switch (what) {
            case 0: return trial.slides - state.now.slides;
            case 1: return trial.slid - state.now.slid;
            default: return trial.sum(DEPTH);
        }
    }

    public void image() {
        kept.copyFrom(state);
        imaged = true;
    }

    public boolean restore() {
        if (!imaged) {
            return false;
        }
        state.copyFrom(kept);
        return true;
    }

    private void putBytes(int four) {
        for (int shift = 24; shift >= 0 && tapeSize < tape.length; shift -= 8) {
            tape[tapeSize] = (byte) (four >>> shift);
            tapeSize++;
        }
    }

    private int refuse(int status) {
        state.refused[status]++;
        return NONE;
    }

    private boolean isSlope(int slope) {
        return slope >= 0 && slope < plan.slopes;
    }

    private void needSlope(int slope) {
        if (!isSlope(slope)) {
            throw new NoSuchElementException("no such slope");
        }
    }

    private Pack packOf(int slope) {
        needSlope(slope);
        return state.now.packs[slope];
    }

    private void needLayer(Pack pack, int layer) {
        if (layer < 0 || layer >= pack.size) {
            throw new NoSuchElementException("no such layer");
        }
    }

    private void needPit(int pit) {
        if (pit < 0 || pit >= state.now.pits) {
            throw new NoSuchElementException("no such pit");
        }
    }

    private static void needWhat(int what, int last) {
        if (what < 0 || what > last) {
            throw new NoSuchElementException("no such thing to ask");
        }
    }

    private static void needHours(int hours, int least, int most) {
        if (hours < least || hours > most) {
            throw new IllegalArgumentException("not so many hours");
        }
    }

    private int worst() {
        int which = NONE;
        int least = 0;
        for (int slope = 0; slope < plan.slopes; slope++) {
            int ratio = state.now.packs[slope].leastRatio(plan.steep[slope], plan);
            if (which == NONE || ratio < least) {
                which = slope;
                least = ratio;
            }
        }
        return which;
    }

    private boolean comesByHand(int fall, int much) {
        if (fall == HOAR_FALL) {
            return plan.airAt(state.now.time) < 0;
        }
        return (fall == SNOW_FALL || fall == RAIN_FALL) && much >= 1 && much <= MOST_MUCH;
    }

    private boolean isUnstable(World world, int slope) {
        return world.packs[slope].lowestUnstable(plan.steep[slope], 0, plan) != NONE;
    }

    private static int extraOf(int taps) {
        int first = Math.min(taps, 10);
        int next = Math.min(taps - first, 10);
        int others = taps - first - next;
        return first + 2 * next + 4 * others;
    }

    private boolean isOnceUnstable(int slope, int hours) {
        trial.copyFrom(state.now);
        for (int i = 0; i < hours; i++) {
            trial.hour(otherPlan, 1 << slope, true);
            if (isUnstable(trial, slope)) {
                return true;
            }
        }
        return false;
    }

    private int otherRatio(int slope, int hours) {
        trial.copyFrom(state.now);
        for (int i = 0; i < hours; i++) {
            trial.hour(otherPlan, 1 << slope, true);
        }
        return trial.packs[slope].leastRatio(plan.steep[slope], plan);
    }

    private boolean isSameWeakest(Pit one, Pit two) {
        int first = one.pack.nameOf(one.pack.weakest(plan.steep[one.slope], plan));
        int second = two.pack.nameOf(two.pack.weakest(plan.steep[two.slope], plan));
        return first != NONE && first == second;
    }

    /**
     * Lets HOURS go by on a set of SLOPES, from one count of HOURS to another, and tells whether
     * all that is NOTED on the way is so.
     */
    private boolean isNotedSo(World world, Plan by, int slopes, int from, int to) {
        Notes notes = state.notes;
        for (int elapsed = from; elapsed <= to; elapsed++) {
            if (elapsed > from) {
                world.hour(by, slopes, true);
            }
            for (int i = 0; i < notes.size; i++) {
                if (notes.hours[i] == elapsed
                        && notes.depth[i] != world.packs[notes.slope[i]].sum(DEPTH)) {
                    return false;
                }
            }
        }
        return true;
    }

    /** Tries every other MUCH of every HOUR with SNOW or RAIN against what is NOTED. */
    private void guessFalls(boolean looking) {
        guesses.clear();
        otherPlan.copyFrom(plan);
        for (int hour = 0; hour < plan.hours; hour++) {
            if (plan.fall[hour] == SNOW_FALL || plan.fall[hour] == RAIN_FALL) {
                // Until that HOUR comes all its guesses are alike: they go on from one lead.
                int ahead = Math.floorMod(hour - state.now.time, plan.hours);
                lead.copyFrom(state.now);
                if (isNotedSo(lead, plan, plan.allSlopes(), 0, ahead)) {
                    guessMuch(hour, ahead, looking);
                }
            }
        }
    }

    private void guessMuch(int hour, int ahead, boolean looking) {
        int slopes = state.notes.slopes();
        int last = state.notes.lastHour();
        for (int much = 1; much <= MOST_MUCH; much++) {
            otherPlan.much[hour] = much;
            trial.copyFrom(lead);
            if (much != plan.much[hour] && isNotedSo(trial, otherPlan, slopes, ahead, last)) {
                guesses.add(100 * hour + much);
                if (looking) {
                    lookFrom(ahead);
                }
            }
        }
        otherPlan.much[hour] = plan.much[hour];
    }

    private void lookFrom(int ahead) {
        trial.copyFrom(lead);
        for (int i = ahead; i < LOOK_HOURS; i++) {
            trial.hour(otherPlan, plan.allSlopes(), true);
        }
        for (int slope = 0; slope < plan.slopes; slope++) {
            guesses.see(slope, trial.packs[slope].sum(DEPTH));
        }
    }

    /** How likely it is, of 10 to the power of the HOURS, that just these FALLS don't come. */
    private int weightOf(int missing, int hours, int tenths) {
        int weight = 1;
        for (int i = 0; i < hours; i++) {
            boolean misses = (missing >> i & 1) == 1;
            if (plan.fallAt(state.now.time + i) != NO_FALL) {
                weight *= misses ? tenths : 10 - tenths;
            } else {
                // Both ways are alike: all of it counts with the one that misses nothing.
                weight *= misses ? 0 : 10;
            }
        }
        return weight;
    }

    private boolean isUnstableWithout(int missing, int slope, int hours) {
        trial.copyFrom(state.now);
        for (int i = 0; i < hours; i++) {
            trial.hour(plan, 1 << slope, (missing >> i & 1) == 0);
        }
        return isUnstable(trial, slope);
    }

    /** One of the YEARS goes by on the trial: answers the seed as the DRAWS leave it. */
    private int yearGoesBy(int seed) {
        int drawn = nextSeed(seed);
        int choice = drawOf(drawn, 6);
        if (choice <= 1) {
            drawn = nextSeed(drawn);
            int many = drawOf(drawn, 6) + 1;
            for (int i = 0; i < many; i++) {
                trial.hour(plan, plan.allSlopes(), true);
            }
        } else if (choice == 5) {
            slideAll();
        } else if (plan.slopes > 0) {
            drawn = nextSeed(drawn);
            int slope = drawOf(drawn, plan.slopes);
            if (choice == 4) {
                trial.digOn(slope);
            } else {
                drawn = nextSeed(drawn);
                int fall = choice == 2 ? SNOW_FALL : RAIN_FALL;
                trial.fallOn(slope, fall, drawOf(drawn, 20) + 1, plan.airAt(trial.time));
            }
        }
        return drawn;
    }

    private void slideAll() {
        for (int slope = 0; slope < plan.slopes; slope++) {
            if (isUnstable(trial, slope)) {
                trial.slideOn(slope, plan);
            }
        }
    }

    private static int nextSeed(int seed) {
        return seed * 1103515245 + 12345;
    }

    private static int drawOf(int seed, int n) {
        return (seed >>> 16 & 0x7fff) % Math.max(n, 1);
    }

    private void writeLine(Pack pack, int layer) {
        line.setLength(0);
        line.append(pack.cells[NAME + layer]).append(' ');
        line.append(kindWord(pack.cells[KIND + layer]));
        line.append(" of ").append(pack.cells[ICE + layer]);
        if (pack.cells[WATER + layer] > 0) {
            line.append(" wet ").append(pack.cells[WATER + layer]);
        }
        line.append(" in ").append(pack.cells[DEPTH + layer]);
        line.append(" at ").append(pack.cells[TEMP + layer]).append(';');
    }

    private static String kindWord(int kind) {
        switch (kind) {
            case POWDER: return "powder";
            case GRAINS: return "grains";
            case FACETS: return "facets";
            case CRUST: return "crust";
            default: return "hoar";
        }
    }

    /** A quotient cut to 0; the document never divides by 0, and so nothing is asked of that. */
    private static int part(long whole, long by) {
        return by == 0 ? 0 : (int) (whole / by);
    }

    private static int burden(int above, int steep) {
        return part((long) above * steep, 100);
    }

    /** What a TEXT tells and neither HOURS nor ACTS change. */
    private static final class Plan {
        int slopes = 0;
        int hours = 0;
        /** AIR of HOURS that no FORECAST tells. */
        int untoldAir = 0;
        final int[] steep = new int[MOST_SLOPES];
        final int[] open = new int[MOST_SLOPES];
        final int[] air = new int[MOST_HOURS];
        final int[] fall = new int[MOST_HOURS];
        final int[] much = new int[MOST_HOURS];
        final int[] table = TABLE.clone();

        void clear() {
            slopes = 0;
            hours = 0;
            untoldAir = 0;
            System.arraycopy(TABLE, 0, table, 0, table.length);
        }

        void copyFrom(Plan other) {
            slopes = other.slopes;
            hours = other.hours;
            untoldAir = other.untoldAir;
            System.arraycopy(other.steep, 0, steep, 0, steep.length);
            System.arraycopy(other.open, 0, open, 0, open.length);
            System.arraycopy(other.air, 0, air, 0, air.length);
            System.arraycopy(other.fall, 0, fall, 0, fall.length);
            System.arraycopy(other.much, 0, much, 0, much.length);
            System.arraycopy(other.table, 0, table, 0, table.length);
        }

        void warm(int more) {
            untoldAir = Math.min(untoldAir + more, MOST_AIR);
            for (int i = 0; i < hours; i++) {
                air[i] = Math.min(air[i] + more, MOST_AIR);
            }
        }

        /** All SLOPES as a set of bits. */
        int allSlopes() {
            return (1 << slopes) - 1;
        }

        int airAt(int time) {
            return hours == 0 ? untoldAir : air[Math.floorMod(time, hours)];
        }

        int fallAt(int time) {
            return hours == 0 ? NO_FALL : fall[Math.floorMod(time, hours)];
        }

        int muchAt(int time) {
            return hours == 0 ? 0 : much[Math.floorMod(time, hours)];
        }

        int of(int row, int kind) {
            int place = row + kind;
            return place >= 0 && place < table.length ? table[place] : 0;
        }
    }

    /** The LAYERS of one SLOPE, the lowest first, and its RUNOFF. */
    private static final class Pack {
        int size = 0;
        int runoff = 0;
        final int[] cells = new int[CELLS];

        void clear() {
            size = 0;
            runoff = 0;
        }

        void copyFrom(Pack other) {
            size = other.size;
            runoff = other.runoff;
            System.arraycopy(other.cells, 0, cells, 0, cells.length);
        }

        int sum(int row) {
            int all = 0;
            for (int i = 0; i < size; i++) {
                all += cells[row + i];
            }
            return all;
        }

        int mass(int i) {
            return cells[ICE + i] + cells[WATER + i];
        }

        int massAbove(int layer) {
            int above = 0;
            for (int i = layer + 1; i < size; i++) {
                above += mass(i);
            }
            return above;
        }

        int nameOf(int layer) {
            return layer >= 0 && layer < size ? cells[NAME + layer] : NONE;
        }

        boolean has(int name) {
            for (int i = 0; i < size; i++) {
                if (cells[NAME + i] == name) {
                    return true;
                }
            }
            return false;
        }

        int namesIn(Pack other) {
            int both = 0;
            for (int i = 0; i < size; i++) {
                if (other.has(cells[NAME + i])) {
                    both++;
                }
            }
            return both;
        }

        void add(int kind, int ice, int water, int depth, int temp, int name) {
            if (size < MOST_LAYERS) {
                cells[KIND + size] = kind;
                cells[ICE + size] = ice;
                cells[WATER + size] = water;
                cells[DEPTH + size] = depth;
                cells[TEMP + size] = temp;
                cells[AGE + size] = 0;
                cells[NAME + size] = name;
                size++;
            }
        }

        /** LAYERS 0 and 1 are JOINED, so that there is room for one more. */
        void joinLowest() {
            long lower = cells[ICE];
            long upper = cells[ICE + 1];
            int stays = upper > lower ? 1 : 0;
            cells[KIND] = cells[KIND + stays];
            cells[NAME] = cells[NAME + stays];
            cells[TEMP] = part(cells[TEMP] * lower + cells[TEMP + 1] * upper, lower + upper);
            cells[ICE] += cells[ICE + 1];
            cells[WATER] += cells[WATER + 1];
            cells[DEPTH] += cells[DEPTH + 1];
            cells[AGE] = Math.max(cells[AGE], cells[AGE + 1]);
            for (int row = 0; row < CELLS; row += MOST_LAYERS) {
                for (int i = 2; i < size; i++) {
                    cells[row + i - 1] = cells[row + i];
                }
            }
            size--;
        }

        /** WATER comes out of what lies above the first so many LAYERS. */
        void wet(int layers, int water) {
            if (layers > 0) {
                cells[WATER + layers - 1] += water;
            } else {
                runoff += water;
            }
        }

        /** (b) with AIR above 0. */
        void melt(int heat) {
            int left = heat;
            for (int top = size - 1; top >= 0 && left > 0; top--) {
                int ice = cells[ICE + top];
                int warmer = Math.min(part(left, ice), -cells[TEMP + top]);
                cells[TEMP + top] += warmer;
                left -= warmer * ice;
                if (cells[TEMP + top] == 0) {
                    int melted = Math.min(left / 100, ice);
                    cells[ICE + top] -= melted;
                    cells[WATER + top] += melted;
                    left -= 100 * melted;
                }
                if (cells[ICE + top] > 0) {
                    return;
                }
                size = top;
                wet(size, cells[WATER + top]);
            }
        }

        /** (b) with AIR of 0 or less. */
        void cool(int air) {
            if (size > 0) {
                int top = TEMP + size - 1;
                cells[top] += (air - cells[top]) / 4;
            }
        }

        /** (c). */
        void evenTemps() {
            // The ground is at 0: LAYER 0 gives to it as an upper LAYER does to a lower one.
            int down = size > 0 ? cells[TEMP] / 8 : 0;
            for (int i = 0; i < size; i++) {
                int temp = cells[TEMP + i];
                int fromAbove = i + 1 < size ? (cells[TEMP + i + 1] - temp) / 8 : 0;
                cells[TEMP + i] = Math.min(temp - down + fromAbove, 0);
                down = fromAbove;
            }
        }

        /** (d). */
        void freezeAndSink(Plan plan) {
            for (int i = size - 1; i >= 0; i--) {
                if (cells[WATER + i] > 0 && cells[TEMP + i] < 0) {
                    freeze(i);
                }
                int holds = part((long) cells[ICE + i] * plan.of(HOLDS, cells[KIND + i]), 100);
                int sinks = cells[WATER + i] - holds;
                if (sinks > 0) {
                    cells[WATER + i] = holds;
                    wet(i, sinks);
                }
            }
        }

        private void freeze(int i) {
            int ice = cells[ICE + i];
            int cold = -cells[TEMP + i];
            int frozen = Math.min(part((long) ice * cold, 100), cells[WATER + i]);
            cells[ICE + i] += frozen;
            cells[WATER + i] -= frozen;
            if (cells[WATER + i] > 0) {
                cells[TEMP + i] = 0;
            } else {
                cells[TEMP + i] = Math.min(part(100L * frozen, ice) - cold, 0);
            }
            if (frozen > 0) {
                cells[KIND + i] = CRUST;
            }
        }

        /** (e). */
        void press(Plan plan) {
            int above = 0;
            for (int i = size - 1; i >= 0; i--) {
                int mass = mass(i);
                long depth = cells[DEPTH + i];
                long load = above + mass / 2;
                long stiff = Math.max(plan.of(STIFF, cells[KIND + i]), 1);
                cells[DEPTH + i] = (int) Math.max(depth - depth * load / stiff, mass);
                above += mass;
            }
        }

        /** (f) and (g). */
        void turnAndAge(int air) {
            for (int i = 0; i < size; i++) {
                cells[KIND + i] = nextKind(i, grade(i, air));
                cells[AGE + i]++;
            }
        }

        private int nextKind(int i, int grade) {
            int kind = cells[KIND + i];
            boolean young = kind == POWDER || kind == FACETS;
            if (cells[WATER + i] > 0) {
                return young || kind == HOAR ? GRAINS : kind;
            }
            if (grade >= 20) {
                return kind == POWDER || kind == GRAINS ? FACETS : kind;
            }
            return young && cells[AGE + i] >= 24 ? GRAINS : kind;
        }

        int grade(int i, int air) {
            int above = i + 1 < size ? cells[TEMP + i + 1] : Math.min(air, 0);
            int below = i > 0 ? cells[TEMP + i - 1] : 0;
            return part(10L * Math.abs(above - below), cells[DEPTH + i]);
        }

        int strength(int i, Plan plan) {
            int strong = plan.of(STRONG, cells[KIND + i]);
            int whole = part(10L * strong * mass(i), cells[DEPTH + i]);
            boolean soaked = 100L * cells[WATER + i] >= 3L * cells[ICE + i];
            return soaked ? whole / 2 : whole;
        }

        int ratio(int i, int burden, Plan plan) {
            if (burden <= 0) {
                return MOST_RATIO;
            }
            return (int) Math.min(100L * strength(i, plan) / burden, MOST_RATIO);
        }

        int weakest(int steep, Plan plan) {
            int which = NONE;
            int least = MOST_RATIO;
            int above = 0;
            // From the top down, so that of like ones the lowest stays.
            for (int i = size - 1; i >= 0; i--) {
                int ratio = ratio(i, burden(above, steep), plan);
                if (ratio <= least) {
                    which = i;
                    least = ratio;
                }
                above += mass(i);
            }
            return which;
        }

        int leastRatio(int steep, Plan plan) {
            int layer = weakest(steep, plan);
            return layer == NONE ? MOST_RATIO : ratio(layer, burden(massAbove(layer), steep), plan);
        }

        /** The lowest LAYER with a RATIO below 100, if so much more lay above. */
        int lowestUnstable(int steep, int extra, Plan plan) {
            int lowest = NONE;
            int above = extra;
            for (int i = size - 1; i >= 0; i--) {
                if (ratio(i, burden(above, steep), plan) < STABLE_RATIO) {
                    lowest = i;
                }
                above += mass(i);
            }
            return lowest;
        }
    }

    /** All that HOURS and ACTS change, but for what lies in the PITS. */
    private static final class World {
        int time = 0;
        int names = 0;
        int taken = 0;
        int slid = 0;
        int slides = 0;
        int pits = 0;
        final Pack[] packs = new Pack[MOST_SLOPES];

        World() {
            for (int i = 0; i < packs.length; i++) {
                packs[i] = new Pack();
            }
        }

        void clear() {
            time = 0;
            names = 0;
            taken = 0;
            slid = 0;
            slides = 0;
            pits = 0;
            for (int i = 0; i < packs.length; i++) {
                packs[i].clear();
            }
        }

        void copyFrom(World other) {
            time = other.time;
            names = other.names;
            taken = other.taken;
            slid = other.slid;
            slides = other.slides;
            pits = other.pits;
            for (int i = 0; i < packs.length; i++) {
                packs[i].copyFrom(other.packs[i]);
            }
        }

        int layers() {
            int all = 0;
            for (int i = 0; i < packs.length; i++) {
                all += packs[i].size;
            }
            return all;
        }

        int runoff() {
            int all = 0;
            for (int i = 0; i < packs.length; i++) {
                all += packs[i].runoff;
            }
            return all;
        }

        int sum(int row) {
            int all = 0;
            for (int i = 0; i < packs.length; i++) {
                all += packs[i].sum(row);
            }
            return all;
        }

        boolean has(int name) {
            for (int i = 0; i < packs.length; i++) {
                if (packs[i].has(name)) {
                    return true;
                }
            }
            return false;
        }

        /** An HOUR on a set of SLOPES, whose FALL comes or not. */
        void hour(Plan plan, int slopes, boolean comes) {
            int air = plan.airAt(time);
            int fall = comes ? plan.fallAt(time) : NO_FALL;
            int much = plan.muchAt(time);
            for (int slope = 0; slope < plan.slopes; slope++) {
                if ((slopes >> slope & 1) == 1) {
                    Pack pack = packs[slope];
                    fallOn(slope, fall, much, air);
                    if (air > 0) {
                        pack.melt(air * plan.open[slope]);
                    } else {
                        pack.cool(air);
                    }
                    pack.evenTemps();
                    pack.freezeAndSink(plan);
                    pack.press(plan);
                    pack.turnAndAge(air);
                }
            }
            time++;
        }

        void fallOn(int slope, int fall, int much, int air) {
            Pack pack = packs[slope];
            if (fall == RAIN_FALL) {
                pack.wet(pack.size, much);
                return;
            }
            boolean hoar = fall == HOAR_FALL && air < 0;
            if (!hoar && fall != SNOW_FALL) {
                return;
            }
            if (pack.size == MOST_LAYERS) {
                pack.joinLowest();
            }
            int ice = hoar ? 1 : much;
            pack.add(hoar ? HOAR : POWDER, ice, 0, 10 * ice, Math.min(air, 0), names);
            names++;
        }

        int digOn(int slope) {
            Pack pack = packs[slope];
            if (pack.size == 0) {
                return NONE;
            }
            pack.size--;
            taken += pack.mass(pack.size);
            return pack.cells[NAME + pack.size];
        }

        int slideOn(int slope, Plan plan) {
            Pack pack = packs[slope];
            int weakest = pack.weakest(plan.steep[slope], plan);
            int gone = pack.size - 1 - weakest;
            slid += pack.massAbove(weakest);
            slides++;
            pack.size = weakest + 1;
            return gone;
        }
    }

    /** LAYERS of a SLOPE as they were. */
    private static final class Pit {
        int slope = 0;
        int time = 0;
        final Pack pack = new Pack();

        void copyFrom(Pit other) {
            slope = other.slope;
            time = other.time;
            pack.copyFrom(other.pack);
        }
    }

    /** What is NOTED. */
    private static final class Notes {
        int size = 0;
        final int[] slope = new int[MOST_NOTES];
        final int[] hours = new int[MOST_NOTES];
        final int[] depth = new int[MOST_NOTES];

        void copyFrom(Notes other) {
            size = other.size;
            System.arraycopy(other.slope, 0, slope, 0, slope.length);
            System.arraycopy(other.hours, 0, hours, 0, hours.length);
            System.arraycopy(other.depth, 0, depth, 0, depth.length);
        }

        void add(int onSlope, int behind, int deep) {
            if (size < MOST_NOTES) {
                slope[size] = onSlope;
                hours[size] = behind;
                depth[size] = deep;
                size++;
            }
        }

        /** The SLOPES of which something is NOTED, as a set of bits. */
        int slopes() {
            int set = 0;
            for (int i = 0; i < size; i++) {
                set |= 1 << slope[i];
            }
            return set;
        }

        int lastHour() {
            int last = NONE;
            for (int i = 0; i < size; i++) {
                last = Math.max(last, hours[i]);
            }
            return last;
        }
    }

    /** All that an IMAGE keeps. */
    private static final class State {
        final World now = new World();
        /** The world as it was ahead of each ACT that is kept, the latest one last. */
        final World[] before = new World[MOST_ACTS];
        int acts = 0;
        final Pit[] pits = new Pit[MOST_PITS];
        final Notes notes = new Notes();
        final int[] refused = new int[STATUSES];

        State() {
            for (int i = 0; i < before.length; i++) {
                before[i] = new World();
            }
            for (int i = 0; i < pits.length; i++) {
                pits[i] = new Pit();
            }
        }

        /** A TEXT's world, all anew but for STATUS. */
        void beginWith(World world) {
            now.copyFrom(world);
            acts = 0;
            notes.size = 0;
        }

        void copyFrom(State other) {
            now.copyFrom(other.now);
            acts = other.acts;
            for (int i = 0; i < acts && i < before.length; i++) {
                before[i].copyFrom(other.before[i]);
            }
            for (int i = 0; i < pits.length; i++) {
                pits[i].copyFrom(other.pits[i]);
            }
            notes.copyFrom(other.notes);
            System.arraycopy(other.refused, 0, refused, 0, refused.length);
        }

        void keepAct() {
            if (acts == MOST_ACTS) {
                forgetOldest();
            }
            before[acts].copyFrom(now);
            acts++;
        }

        private void forgetOldest() {
            World oldest = before[0];
            for (int i = 1; i < before.length; i++) {
                before[i - 1] = before[i];
            }
            before[before.length - 1] = oldest;
            acts--;
        }

        void takeBack() {
            if (acts > 0) {
                acts--;
                now.copyFrom(before[acts]);
            }
        }

        /** ACTS are UNDONE the last one first: a PIT that is UNDONE is always the last one. */
        void keepPit(int slope) {
            if (now.pits < MOST_PITS) {
                Pit pit = pits[now.pits];
                pit.slope = slope;
                pit.time = now.time;
                pit.pack.copyFrom(now.packs[slope]);
                now.pits++;
            }
        }
    }

    /** FALLS that suit what is NOTED, and how many unlike DEPTHS they lead to. */
    private static final class Guesses {
        int many = 0;
        int first = NONE;
        final int[] unlike = new int[MOST_SLOPES];
        final int[][] depths = new int[MOST_SLOPES][MOST_HOURS * MOST_MUCH];

        void clear() {
            many = 0;
            first = NONE;
            for (int i = 0; i < unlike.length; i++) {
                unlike[i] = 0;
            }
        }

        void add(int guess) {
            if (many == 0) {
                first = guess;
            }
            many++;
        }

        void see(int slope, int depth) {
            int[] seen = depths[slope];
            for (int i = 0; i < unlike[slope]; i++) {
                if (seen[i] == depth) {
                    return;
                }
            }
            if (unlike[slope] < seen.length) {
                seen[unlike[slope]] = depth;
                unlike[slope]++;
            }
        }
    }

    /** Compares KINDS of two rows of LAYERS, with one row of numbers that is used again. */
    private static final class Likeness {
        private final int[] row = new int[MOST_LAYERS + 1];

        int longestRow(Pack one, Pack two) {
            for (int j = 0; j <= two.size; j++) {
                row[j] = 0;
            }
            for (int i = 0; i < one.size; i++) {
                int corner = 0;
                for (int j = 0; j < two.size; j++) {
                    int above = row[j + 1];
                    boolean same = one.cells[KIND + i] == two.cells[KIND + j];
                    row[j + 1] = same ? corner + 1 : Math.max(above, row[j]);
                    corner = above;
                }
            }
            return row[two.size];
        }

        int fewestSteps(Pack one, Pack two) {
            for (int j = 0; j <= two.size; j++) {
                row[j] = j;
            }
            for (int i = 0; i < one.size; i++) {
                int corner = row[0];
                row[0] = i + 1;
                for (int j = 0; j < two.size; j++) {
                    int above = row[j + 1];
                    boolean same = one.cells[KIND + i] == two.cells[KIND + j];
                    int changed = same ? corner : corner + 1;
                    row[j + 1] = Math.min(changed, Math.min(above, row[j]) + 1);
                    corner = above;
                }
            }
            return row[two.size];
        }
    }

    /** Reads a TEXT, token by token, up to its first FAULT. */
    private static final class TextReader {
        private static final int END = 0;
        private static final int WORD = 1;
        private static final int NUMBER = 2;
        private static final int SEMICOLON = 3;
        private static final int DASH = 4;
        private static final int OTHER = 5;

        private static final int MISPLACED = 1;
        private static final int TOO_MUCH = 2;
        private static final int UNTOLD_SLOPE = 3;
        private static final int TOLD_ALREADY = 4;
        private static final int TOO_SHALLOW = 5;

        private static final int MOST_DIGITS = 4;

        int place = NONE;
        private int code = 0;
        private byte[] text = new byte[0];
        private int end = 0;
        /** The token that is looked at: its type, first byte and the byte behind it. */
        private int type = END;
        private int at = 0;
        private int behind = 0;
        /** The first byte of the token that was taken last. */
        private int taken = 0;
        /** Places of the TABLE that are told, as a set of bits. */
        private int toldTable = 0;

        /** Answers the FAULT or 0; its place is kept. */
        int read(byte[] bytes, int length, Plan plan, World world) {
            text = bytes;
            end = Math.min(length, bytes.length);
            behind = 0;
            code = 0;
            place = NONE;
            toldTable = 0;
            plan.clear();
            world.clear();
            peek();
            for (int i = 0; i <= end && code == 0 && type != END; i++) {
                readClause(plan, world);
            }
            return code;
        }

        private void readClause(Plan plan, World world) {
            if (is("slope")) {
                readSlope(plan);
            } else if (is("layer")) {
                readLayer(plan, world);
            } else if (is("hour")) {
                readHour(plan);
            } else if (is("strong")) {
                readTable(plan, STRONG, 0, 99);
            } else if (is("holds")) {
                readTable(plan, HOLDS, 0, 99);
            } else if (is("stiff")) {
                readTable(plan, STIFF, 1, 9999);
            } else {
                fail(MISPLACED, at);
            }
        }

        private void readSlope(Plan plan) {
            if (plan.slopes >= MOST_SLOPES) {
                fail(TOO_MUCH, at);
            }
            take();
            int steep = number(0, MOST_STEEP);
            int open = number(0, MOST_OPEN);
            close();
            if (code == 0) {
                plan.steep[plan.slopes] = steep;
                plan.open[plan.slopes] = open;
                plan.slopes++;
            }
        }

        private void readLayer(Plan plan, World world) {
            take();
            int slope = number(0, MOST_SLOPES - 1);
            if (slope >= plan.slopes) {
                fail(UNTOLD_SLOPE, taken);
            } else if (world.packs[slope].size >= MOST_LAYERS) {
                fail(TOO_MUCH, taken);
            }
            int kind = kind();
            int ice = number(1, 99);
            int water = number(0, 99);
            int depth = number(1, 999);
            if (depth < ice + water) {
                fail(TOO_SHALLOW, taken);
            }
            int cold = number(0, MOST_COLD);
            close();
            if (code == 0) {
                world.packs[slope].add(kind, ice, water, depth, -cold, world.names);
                world.names++;
            }
        }

        private void readHour(Plan plan) {
            if (plan.hours >= MOST_HOURS) {
                fail(TOO_MUCH, at);
            }
            take();
            boolean cold = type == DASH;
            if (cold) {
                take();
            }
            int air = number(0, cold ? MOST_COLD : MOST_AIR);
            int fall = readFall();
            int much = fall == SNOW_FALL || fall == RAIN_FALL ? number(1, MOST_MUCH) : 0;
            close();
            if (code == 0) {
                plan.air[plan.hours] = cold ? -air : air;
                plan.fall[plan.hours] = fall;
                plan.much[plan.hours] = much;
                plan.hours++;
            }
        }

        private int readFall() {
            int fall = is("snow") ? SNOW_FALL
                    : is("rain") ? RAIN_FALL
                    : is("hoar") ? HOAR_FALL : NO_FALL;
            if (fall != NO_FALL) {
                take();
            }
            return fall;
        }

        private void readTable(Plan plan, int row, int least, int most) {
            take();
            int spot = row + kind();
            if ((toldTable >> spot & 1) == 1) {
                fail(TOLD_ALREADY, taken);
            }
            int value = number(least, most);
            close();
            if (code == 0) {
                toldTable |= 1 << spot;
                plan.table[spot] = value;
            }
        }

        private int kind() {
            for (int kind = 0; kind < KINDS; kind++) {
                if (is(kindWord(kind))) {
                    take();
                    return kind;
                }
            }
            fail(MISPLACED, at);
            return 0;
        }

        private int number(int least, int most) {
            if (type != NUMBER) {
                fail(MISPLACED, at);
                return 0;
            }
            int value = 0;
            for (int i = at; i < behind && value <= most; i++) {
                value = 10 * value + text[i] - '0';
            }
            if (behind - at > MOST_DIGITS || value < least || value > most) {
                fail(TOO_MUCH, at);
                return 0;
            }
            take();
            return value;
        }

        private void close() {
            if (type != SEMICOLON) {
                fail(MISPLACED, at);
            }
            take();
        }

        /** Only the first FAULT counts: behind it no token is taken any more. */
        private void fail(int fault, int where) {
            if (code == 0) {
                code = fault;
                place = where;
            }
        }

        private boolean is(String word) {
            if (type != WORD || behind - at != word.length()) {
                return false;
            }
            for (int i = 0; i < word.length(); i++) {
                if (text[at + i] != word.charAt(i)) {
                    return false;
                }
            }
            return true;
        }

        private void take() {
            if (code == 0) {
                taken = at;
                peek();
            }
        }

        /** Looks at the next token. */
        private void peek() {
            at = behind;
            while (at < end && (text[at] == ' ' || text[at] == '\n')) {
                at++;
            }
            type = at < end ? typeOf(text[at]) : END;
            behind = at < end ? at + 1 : end;
            if (type == WORD || type == NUMBER) {
                while (behind < end && typeOf(text[behind]) == type) {
                    behind++;
                }
            }
        }

        private static int typeOf(int sign) {
            if (sign >= 'a' && sign <= 'z') {
                return WORD;
            }
            if (sign >= '0' && sign <= '9') {
                return NUMBER;
            }
            return sign == ';' ? SEMICOLON : sign == '-' ? DASH : OTHER;
        }
    }
}
