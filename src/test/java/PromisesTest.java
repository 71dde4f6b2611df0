/** Promises 1 to 34, one after the other: ordinary inputs, the edges that the document names, wrong inputs. */
public final class PromisesTest {
    private static final long NO_SUCH = Check.NO_SUCH;
    private static final long ILLEGAL = Check.ILLEGAL;

    /** HOAR of STRENGTH 1 under SNOW whose BURDEN is 2: RATIO 50. */
    private static final String WEAK = "slope 50 0;layer 0 hoar 1 0 10 0;layer 0 powder 4 0 40 0;";

    /** FACETS of STRENGTH 10 under SNOW whose BURDEN is 10: RATIO 100. */
    private static final String EVEN = "slope 50 10;layer 0 facets 10 0 40 20;layer 0 powder 20 0 200 50;";

    public static void main(String[] args) {
        aNewObject();
        feed();
        snowAndFault();
        count();
        forecast();
        slope();
        layer();
        told();
        hours();
        fall();
        dig();
        slide();
        pit();
        undo();
        then();
        once();
        gone();
        stands();
        toLoad();
        steepest();
        toWarm();
        matters();
        pitOf();
        compare();
        nearest();
        note();
        falls();
        look();
        forget();
        odds();
        years();
        imageAndRestore();
        Check.finish();
    }

    private static void is(String call, long got, long due) {
        Check.same(call, got, due);
    }

    private static void aNewObject() {
        SnowRecorder x = new SnowRecorder();
        for (int what = 0; what <= 17; what++) {
            is("1: count(" + what + ")", x.count(what), what == 10 ? -1 : 0);
        }
        is("1: fault()", x.fault(), -1);
        is("1: undo()", x.undo(), -1);
        is("1: restore()", x.restore() ? 1 : 0, 0);
        is("1: hours(24)", x.hours(24), 24);
        is("1: NONE", SnowRecorder.NONE, -1);
    }

    private static void feed() {
        SnowRecorder x = new SnowRecorder();
        for (int i = 1; i <= 45; i++) {
            is("2: feed", x.feed(0x20202020, 0x20202020, 0x20202020, 0x20202020, 0x20202020), 20 * i);
        }
        is("2: more than 900", x.feed(0, 0, 0, 0, 0), -1);
        is("2: none come", x.count(14), 900);
        is("2: snow(900)", x.snow(900), 0);
        // The highest byte first: "slope 12 3;" and blanks.
        x.feed(0x736c6f70, 0x65203132, 0x20333b20, 0x20202020, 0x2020203f);
        is("2: the last byte is the lowest of e", x.snow(20), 1);
        is("2: its place", x.fault(), 19);
        x.feed(0x736c6f70, 0x65203132, 0x20333b20, 0x20202020, 0x20202020);
        is("2: snow(20)", x.snow(20), 0);
        is("2: STEEP", x.slope(0, 0), 12);
        is("2: OPEN", x.slope(0, 1), 3);
        // Bytes above 127 are not blanks.
        x.feed(0xffffffff, 0, 0, 0, 0);
        is("2: snow(1)", x.snow(1), 1);
    }

    private static void snowAndFault() {
        SnowRecorder x = new SnowRecorder();
        x.feed(0x20202020, 0x20202020, 0x20202020, 0x20202020, 0x2020203f);
        Check.due("3: snow(-1)", () -> x.snow(-1), ILLEGAL);
        Check.due("3: snow(21)", () -> x.snow(21), ILLEGAL);
        is("3: the tape stays", x.count(14), 20);
        is("3: STATUS stays", x.count(15), 0);
        is("3: snow(19), only its first bytes", x.snow(19), 0);
        is("3: the tape is empty", x.count(14), 0);
        Check.due("3: snow(1) of an empty tape", () -> x.snow(1), ILLEGAL);
        is("3: a FAULT", Check.tell(x, "slope 9"), 1);
        is("3: the tape is empty", x.count(14), 0);
        is("4: fault()", x.fault(), 7);
        Check.due("3: snow(1)", () -> x.snow(1), ILLEGAL);
        is("4: fault() stays", x.fault(), 7);
        is("3: snow(0)", x.snow(0), 0);
        is("4: fault() without", x.fault(), -1);
        is("3: STATUS stays behind a right TEXT", x.count(15), 1);
        SnowRecorder y = Check.on(WEAK + "strong crust 9;hour 5;");
        y.pit(0);
        y.note(0, 1, 1);
        y.hours(5);
        y.dig(0);
        y.dig(7);
        y.fall(0, 2, 50);
        y.hours(1);
        y.image();
        is("3: anew", Check.tell(y, "slope 1 2;slope 3 4;layer 1 crust 10 0 10 0;"), 0);
        int[] due = {2, 0, 0, 1, 1, 0, 0, 0, 0, 10, 0, 0, 0, 0, 0, 0, 1, 0};
        for (int what = 0; what < due.length; what++) {
            is("3: count(" + what + ") anew", y.count(what), due[what]);
        }
        is("3: the TABLE is anew", y.layer(1, 0, 9), 400);
        is("3: RUNOFF is anew", y.slope(0, 6), 0);
        is("3: the image is gone", y.restore() ? 1 : 0, 0);
        is("3: ACTS are gone", y.undo(), -1);
    }

    private static void count() {
        SnowRecorder x = Check.on("slope 10 0;slope 50 0;slope 50 0;layer 1 hoar 1 0 10 0;layer 1 powder 4 1 40 0;layer 2 hoar 1 0 10 0;"
            + "layer 2 powder 4 1 40 0;layer 0 crust 1 0 1 0;hour 0;hour 0;");
        x.slide(1);
        x.dig(0);
        x.fall(0, 2, 7);
        x.hours(1);
        x.hours(0);
        x.hours(0);
        x.note(0, 0, 0);
        x.note(9, 0, 0);
        x.pit(2);
        x.feed(0, 0, 0, 0, 0);
        // The WATER of slope 2 ran off: 4 * 5 / 100 = 0 and 1 * 1 / 100 = 0 are held.
        int[] due = {3, 2, 1, 3, 5, 8, 1, 5, 1, 6, 2, 1, 5, 1, 20, 0, 2, 1};
        for (int what = 0; what < due.length; what++) {
            is("5: count(" + what + ")", x.count(what), due[what]);
        }
        Check.due("5: count(-1)", () -> x.count(-1), NO_SUCH);
        Check.due("5: count(18)", () -> x.count(18), NO_SUCH);
        SnowRecorder y = Check.on("slope 50 0;slope 50 0;layer 1 crust 1 0 1 0;");
        is("5: WORST, of like ones the first", y.count(10), 0);
    }

    private static void forecast() {
        SnowRecorder x = Check.on("hour -300 snow 50;hour 100 rain 1;hour 0 hoar;hour -1;");
        int[][] due = {{-300, 1, 50}, {100, 2, 1}, {0, 3, 0}, {-1, 0, 0}};
        for (int hour = 0; hour < due.length; hour++) {
            for (int what = 0; what < 3; what++) {
                is("6: forecast(" + hour + ", " + what + ")", x.forecast(hour, what), due[hour][what]);
            }
        }
        Check.due("6: forecast(-1, 0)", () -> x.forecast(-1, 0), NO_SUCH);
        Check.due("6: forecast(4, 0)", () -> x.forecast(4, 0), NO_SUCH);
        Check.due("6: forecast(0, -1)", () -> x.forecast(0, -1), NO_SUCH);
        Check.due("6: forecast(0, 3)", () -> x.forecast(0, 3), NO_SUCH);
    }

    private static void slope() {
        SnowRecorder x = Check.on("slope 7 8;" + "slope 50 10;layer 1 facets 10 1 40 20;layer 1 powder 20 2 200 50;");
        // 4 * 11 * 10 / 40 = 11, half of it 5; 22 * 50 / 100 = 11.
        int[] due = {50, 10, 2, 240, 30, 3, 0, 0, 45, 1};
        for (int what = 0; what < due.length; what++) {
            is("7: slope(1, " + what + ")", x.slope(1, what), due[what]);
        }
        int[] bare = {7, 8, 0, 0, 0, 0, 0, -1, 9999, 0};
        for (int what = 0; what < bare.length; what++) {
            is("7: slope(0, " + what + ")", x.slope(0, what), bare[what]);
        }
        // 2 * 90 / 100 = 1: RATIO 100.
        is("7: just not UNSTABLE", Check.on("slope 90 0;layer 0 hoar 1 0 10 0;layer 0 crust 2 0 2 0;").slope(0, 9), 0);
        Check.due("7: slope(-1, 0)", () -> x.slope(-1, 0), NO_SUCH);
        Check.due("7: slope(2, 0)", () -> x.slope(2, 0), NO_SUCH);
        Check.due("7: slope(0, -1)", () -> x.slope(0, -1), NO_SUCH);
        Check.due("7: slope(0, 10)", () -> x.slope(0, 10), NO_SUCH);
    }

    private static void layer() {
        SnowRecorder x = Check.on(EVEN + "hour -100;hour 5;");
        int[][] due = {{2, 10, 0, 40, -20, 0, 0, 25, 12, 10, 10, 100}, {0, 20, 0, 200, -50, 0, 1, 10, 4, 3, 0, 9999}};
        for (int layer = 0; layer < 2; layer++) {
            for (int what = 0; what < 12; what++) {
                is("8: layer(0, " + layer + ", " + what + ")", x.layer(0, layer, what), due[layer][what]);
            }
        }
        x.hours(1);
        // The HOUR that comes has AIR 5, which counts 0; below the top one it is at -20 + 3 - ...
        is("8: GRADE by the HOUR that comes", x.layer(0, 1, 8), -x.layer(0, 0, 4) * 10 / x.layer(0, 1, 3));
        Check.due("8: layer(1, 0, 0)", () -> x.layer(1, 0, 0), NO_SUCH);
        Check.due("8: layer(-1, 0, 0)", () -> x.layer(-1, 0, 0), NO_SUCH);
        Check.due("8: layer(0, -1, 0)", () -> x.layer(0, -1, 0), NO_SUCH);
        Check.due("8: layer(0, 2, 0)", () -> x.layer(0, 2, 0), NO_SUCH);
        Check.due("8: layer(0, 0, -1)", () -> x.layer(0, 0, -1), NO_SUCH);
        Check.due("8: layer(0, 0, 12)", () -> x.layer(0, 0, 12), NO_SUCH);
    }

    private static void toldIs(SnowRecorder x, int layer, String text) {
        is("9: told(0, " + layer + ", NONE)", x.told(0, layer, -1), text.length());
        for (int i = 0; i < text.length(); i++) {
            is("9: told(0, " + layer + ", " + i + ") of " + text, x.told(0, layer, i), text.charAt(i));
        }
        Check.due("9: told behind " + text, () -> x.told(0, layer, text.length()), NO_SUCH);
        Check.due("9: told ahead of " + text, () -> x.told(0, layer, -2), NO_SUCH);
    }

    private static void told() {
        SnowRecorder x = Check.on("slope 1 1;layer 0 facets 10 0 40 20;layer 0 powder 9 3 999 0;layer 0 grains 1 1 2 300;"
            + "layer 0 crust 5 0 50 1;layer 0 hoar 1 0 10 0;");
        toldIs(x, 0, "0 facets of 10 in 40 at -20;");
        toldIs(x, 1, "1 powder of 9 wet 3 in 999 at 0;");
        toldIs(x, 2, "2 grains of 1 wet 1 in 2 at -300;");
        toldIs(x, 3, "3 crust of 5 in 50 at -1;");
        toldIs(x, 4, "4 hoar of 1 in 10 at 0;");
        Check.due("9: no such SLOPE", () -> x.told(1, 0, -1), NO_SUCH);
        Check.due("9: no such LAYER", () -> x.told(0, 5, -1), NO_SUCH);
        Check.due("9: no such LAYER", () -> x.told(0, -1, -1), NO_SUCH);
    }

    private static void hours() {
        SnowRecorder x = Check.on("slope 1 1;");
        is("10: hours(0)", x.hours(0), -1);
        is("10: hours(-1)", x.hours(-1), -1);
        is("10: hours(25)", x.hours(25), -1);
        is("10: hours(a great many)", x.hours(Integer.MAX_VALUE), -1);
        is("10: STATUS", x.count(16), 4);
        is("10: no ACT", x.count(12), 0);
        for (int i = 1; i <= 83; i++) {
            is("10: hours(24)", x.hours(24), 24 * i);
        }
        is("10: TIME would be 2001", x.hours(9), -1);
        is("10: TIME is 2000", x.hours(8), 2000);
        is("10: TIME would be 2001", x.hours(1), -1);
        is("10: STATUS", x.count(16), 6);
    }

    private static void fall() {
        SnowRecorder x = Check.on("slope 1 1;slope 1 1;hour -30;hour 40;");
        is("11: SNOW", x.fall(1, 1, 50), 1);
        is("11: its DEPTH", x.layer(1, 0, 3), 500);
        is("11: its TEMP", x.layer(1, 0, 4), -30);
        is("11: its KIND", x.layer(1, 0, 0), 0);
        is("11: HOAR", x.fall(1, 3, -7), 2);
        is("11: its KIND", x.layer(1, 1, 0), 4);
        is("11: its NAME", x.layer(1, 1, 6), 1);
        is("11: RAIN", x.fall(1, 2, 1), 2);
        is("11: WATER", x.layer(1, 1, 2), 1);
        is("11: RAIN on no LAYERS", x.fall(0, 2, 50), 0);
        is("11: RUNOFF", x.slope(0, 6), 50);
        is("11: ACTS", x.count(12), 4);
        is("11: no such SLOPE", x.fall(2, 1, 1), -1);
        is("11: no such SLOPE", x.fall(-1, 1, 1), -1);
        is("11: no such FALL", x.fall(0, 0, 1), -1);
        is("11: no such FALL", x.fall(0, 4, 1), -1);
        is("11: much 0", x.fall(0, 1, 0), -1);
        is("11: much 51", x.fall(0, 2, 51), -1);
        x.hours(1);
        is("11: HOAR at 40", x.fall(0, 3, 1), -1);
        is("11: SNOW at 40", x.fall(0, 1, 1), 1);
        is("11: its TEMP", x.layer(0, 0, 4), 0);
        is("11: STATUS", x.count(16), 7);
        is("11: HOAR without a FORECAST", Check.on("slope 1 1;").fall(0, 3, 1), -1);
    }

    private static void dig() {
        SnowRecorder x = Check.on("slope 1 1;slope 1 1;layer 0 crust 9 0 9 0;layer 0 crust 5 2 9 0;");
        is("12: dig(0)", x.dig(0), 1);
        is("12: TAKEN", x.count(6), 7);
        is("12: dig(0)", x.dig(0), 0);
        is("12: TAKEN", x.count(6), 16);
        is("12: no LAYERS", x.dig(0), -1);
        is("12: no such SLOPE", x.dig(2), -1);
        is("12: no such SLOPE", x.dig(-1), -1);
        is("12: STATUS", x.count(16), 3);
        is("12: ACTS", x.count(12), 2);
    }

    private static void slide() {
        SnowRecorder x = Check.on("slope 50 0;layer 0 crust 50 0 50 0;layer 0 hoar 1 0 10 0;layer 0 powder 4 0 40 0;layer 0 powder 5 2 50 0;slope 50 0;");
        is("13: slide(0)", x.slide(0), 2);
        is("13: LAYERS", x.slope(0, 2), 2);
        is("13: SLID", x.count(7), 11);
        is("13: SLIDES", x.count(8), 1);
        is("13: TAKEN", x.count(6), 0);
        is("13: it isn't UNSTABLE", x.slide(0), -1);
        is("13: no LAYERS", x.slide(1), -1);
        is("13: no such SLOPE", x.slide(2), -1);
        is("13: no such SLOPE", x.slide(-1), -1);
        is("13: STATUS", x.count(16), 4);
        is("13: SLIDES", x.count(8), 1);
        is("13: not below 100", Check.on(EVEN).slide(0), -1);
    }

    private static void pit() {
        SnowRecorder x = Check.on("slope 1 1;" + "slope 1 1;layer 1 crust 9 0 9 0;");
        for (int i = 1; i <= 6; i++) {
            is("14: pit", x.pit(i % 2), i);
        }
        is("14: there are 6", x.pit(0), -1);
        is("14: no such SLOPE", x.pit(2), -1);
        is("14: no such SLOPE", x.pit(-1), -1);
        is("14: STATUS", x.count(16), 3);
        is("14: ACTS", x.count(12), 6);
        is("14: undo()", x.undo(), 5);
        is("14: PITS", x.count(11), 5);
        is("14: pit", x.pit(1), 6);
        is("14: its SLOPE", x.pitOf(5, 0), 1);
    }

    private static void undo() {
        SnowRecorder x = Check.on(WEAK + "hour -10 snow 3;");
        x.hours(0);
        x.note(0, 0, 1);
        x.slide(0);
        x.hours(3);
        x.dig(0);
        x.fall(0, 2, 9);
        x.pit(0);
        is("15: undo pit", x.undo(), 4);
        is("15: PITS", x.count(11), 0);
        is("15: undo fall", x.undo(), 3);
        is("15: TAKEN", x.count(6), 3);
        is("15: undo dig", x.undo(), 2);
        is("15: TAKEN", x.count(6), 0);
        is("15: LAYERS", x.slope(0, 2), 4);
        is("15: NAMES", x.count(4), 5);
        is("15: undo hours", x.undo(), 1);
        is("15: TIME", x.count(2), 0);
        is("15: NAMES", x.count(4), 2);
        is("15: LAYERS", x.slope(0, 2), 1);
        is("15: AGE", x.layer(0, 0, 5), 0);
        is("15: undo slide", x.undo(), 0);
        is("15: LAYERS", x.slope(0, 2), 2);
        is("15: SLID", x.count(7), 0);
        is("15: SLIDES", x.count(8), 0);
        is("15: none", x.undo(), -1);
        is("15: STATUS stays", x.count(16), 1);
        is("15: NOTED stays", x.count(13), 1);
        SnowRecorder y = Check.on("slope 1 0;");
        for (int i = 0; i < 45; i++) {
            y.hours(1);
        }
        is("15: at most 40", y.count(12), 40);
        for (int i = 39; i >= 0; i--) {
            is("15: undo", y.undo(), i);
            is("15: TIME", y.count(2), i + 5);
        }
        is("15: the first ones aren't kept", y.undo(), -1);
    }

    private static void then() {
        SnowRecorder x = Check.on("slope 0 0;slope 50 10;layer 1 crust 40 0 50 0;hour 0 snow 5;hour 30 rain 2;");
        is("16: now DEPTH", x.then(1, 0, 0), 50);
        is("16: now ICE", x.then(1, 0, 1), 40);
        is("16: now WATER", x.then(1, 0, 2), 0);
        is("16: now LAYERS", x.then(1, 0, 3), 1);
        is("16: now RATIO", x.then(1, 0, 4), 9999);
        is("16: now its NAME", x.then(1, 0, 5), 0);
        is("16: now RUNOFF", x.then(1, 0, 6), 0);
        is("16: nothing goes by", x.count(2), 0);
        is("16: without LAYERS", x.then(0, 0, 4), 9999);
        is("16: without LAYERS", x.then(0, 0, 5), -1);
        // NAMES: slope 0 has 1, slope 1 has 2; its WEAKEST is that of RATIO 9999, CRUST 320 / 2.
        is("16: LAYERS behind 1", x.then(1, 1, 3), 2);
        is("16: NAME behind 1 of slope 0", x.then(0, 1, 5), 1);
        is("16: DEPTH behind 1", x.then(1, 1, 0), 100);
        // HEAT 300 melts 3 of 5; 3 and 2 of RAIN sink through POWDER of 2 and CRUST of 40, which holds 0.
        is("16: ICE behind 2", x.then(1, 2, 1), 42);
        is("16: WATER behind 2", x.then(1, 2, 2), 0);
        is("16: RUNOFF behind 2", x.then(1, 2, 6), 5);
        for (int h = 0; h <= 72; h++) {
            for (int what = 0; what <= 6; what++) {
                SnowRecorder y = Check.on("slope 0 0;slope 50 10;layer 1 crust 40 0 50 0;hour 0 snow 5;hour 30 rain 2;");
                for (int i = 0; i < h; i++) {
                    y.hours(1);
                }
                int weakest = y.slope(1, 7);
                int due = what == 5 ? y.layer(1, weakest, 6) : y.slope(1, new int[] {3, 4, 5, 2, 8, 0, 6}[what]);
                is("16: then(1, " + h + ", " + what + ")", x.then(1, h, what), due);
            }
        }
        Check.due("16: no such SLOPE", () -> x.then(2, 0, 0), NO_SUCH);
        Check.due("16: no such SLOPE, and hours", () -> x.then(-1, 99, 0), NO_SUCH);
        Check.due("16: another what", () -> x.then(0, 0, 7), NO_SUCH);
        Check.due("16: another what, and hours", () -> x.then(0, -1, -1), NO_SUCH);
        Check.due("16: hours", () -> x.then(0, -1, 0), ILLEGAL);
        Check.due("16: hours", () -> x.then(0, 73, 0), ILLEGAL);
    }

    private static void once() {
        SnowRecorder x = Check.on("slope 50 0;slope 50 10;layer 0 hoar 1 0 10 0;layer 1 powder 6 0 60 0;hour 10;hour 10 snow 2;hour 10 snow 1;");
        // 2 * 50 / 100 = 1: RATIO 100; 3 * 50 / 100 = 1 too; from 4 on it is 2: behind 5 HOURS 5.
        is("17: UNSTABLE", x.once(0, 0), 5);
        is("17: no LAYERS", x.once(0, 1), -1);
        is("17: UNSTABLE now", Check.on(WEAK).once(0, 0), 0);
        SnowRecorder y = Check.on("slope 50 10;slope 1 1;layer 0 crust 6 0 60 0;hour 10;");
        // HEAT 100 melts one an HOUR.
        is("17: no LAYERS behind 6", y.once(0, 1), 6);
        is("17: no LAYERS now", y.once(1, 1), 0);
        is("17: never UNSTABLE", y.once(0, 0), -1);
        SnowRecorder z = Check.on("slope 50 10;layer 0 crust 72 0 72 0;hour 10;");
        is("17: behind 72", z.once(0, 1), 72);
        is("17: not behind 73", Check.on("slope 50 10;layer 0 crust 73 0 73 0;hour 10;").once(0, 1), -1);
        Check.due("17: no such SLOPE", () -> x.once(2, 0), NO_SUCH);
        Check.due("17: another what", () -> x.once(0, 2), NO_SUCH);
        Check.due("17: another what", () -> x.once(0, -1), NO_SUCH);
        is("17: nothing goes by", x.count(2), 0);
    }

    private static void gone() {
        SnowRecorder x = Check.on("slope 50 10;slope 50 0;layer 0 crust 3 0 60 0;layer 0 crust 2 0 60 0;layer 1 crust 2 0 60 0;hour 10;");
        is("18: gone(1)", x.gone(1), 2);
        is("18: gone(0)", x.gone(0), 5);
        is("18: never", x.gone(2), -1);
        x.dig(1);
        is("18: gone now", x.gone(2), 0);
        Check.due("18: not given", () -> x.gone(3), NO_SUCH);
        Check.due("18: not given", () -> x.gone(-1), NO_SUCH);
        x.fall(1, 1, 1);
        is("18: given by hand", x.gone(3), -1);
        x.undo();
        Check.due("18: not given any more", () -> x.gone(3), NO_SUCH);
        is("18: behind 72", Check.on("slope 0 10;layer 0 crust 72 0 72 0;hour 10;").gone(0), 72);
        is("18: not behind 73", Check.on("slope 0 10;layer 0 crust 73 0 73 0;hour 10;").gone(0), -1);
        // Behind 11 HOURS there are 12 LAYERS; in the 12th HOUR NAMES 0 and 1 are JOINED: 1 has more ICE.
        SnowRecorder y = Check.on("slope 0 0;layer 0 crust 1 0 60 0;hour 0 snow 5;");
        is("18: JOINED away", y.gone(0), 12);
    }

    private static void stands() {
        SnowRecorder x = Check.on(EVEN);
        is("19: taps", x.stands(0, 0), 2);
        is("19: LAYER", x.stands(0, 1), 0);
        is("19: UNSTABLE now", Check.on(WEAK).stands(0, 0), 0);
        is("19: no LAYERS", Check.on("slope 50 0;").stands(0, 0), -1);
        is("19: no LAYERS", Check.on("slope 50 0;").stands(0, 1), -1);
        // STRENGTH s stands while EXTRA is s or less, STEEP 50: EXTRA 2s + 2 is too much.
        int[][] due = {{4, 10}, {5, 11}, {13, 19}, {14, 20}, {15, 21}, {16, 21}, {17, 22}, {33, 30}, {34, 30}, {35, -1}};
        for (int[] d : due) {
            SnowRecorder y = Check.on("slope 50 0;strong powder " + d[0] + ";layer 0 powder 10 0 100 0;");
            is("19: STRENGTH " + d[0], y.stands(0, 0), d[1]);
            is("19: LAYER", y.stands(0, 1), d[1] == -1 ? -1 : 0);
        }
        // Both at once: the lowest, though the upper one has the lesser RATIO.
        SnowRecorder z = Check.on("slope 50 0;strong powder 1;strong hoar 0;layer 0 powder 10 0 100 0;layer 0 hoar 2 0 10 0;");
        is("19: taps of both", z.stands(0, 0), 2);
        is("19: the lowest such", z.stands(0, 1), 0);
        SnowRecorder w = Check.on("slope 50 0;strong powder 9;strong hoar 0;layer 0 powder 10 0 100 0;layer 0 hoar 2 0 10 0;");
        is("19: taps of the upper one", w.stands(0, 0), 2);
        is("19: the upper one", w.stands(0, 1), 1);
        Check.due("19: no such SLOPE", () -> x.stands(1, 0), NO_SUCH);
        Check.due("19: another what", () -> x.stands(0, 2), NO_SUCH);
        Check.due("19: another what", () -> x.stands(0, -1), NO_SUCH);
    }

    private static void toLoad() {
        SnowRecorder x = Check.on(EVEN);
        is("20: toLoad", x.toLoad(0), 2);
        is("20: UNSTABLE now", Check.on(WEAK).toLoad(0), 1);
        is("20: no LAYERS", Check.on("slope 50 0;").toLoad(0), -1);
        // 99 * 50 / 100 = 49.
        is("20: 98", Check.on("slope 50 0;strong powder 48;layer 0 powder 10 0 100 0;").toLoad(0), 98);
        is("20: none", Check.on("slope 50 0;strong powder 49;layer 0 powder 10 0 100 0;").toLoad(0), -1);
        is("20: 99", Check.on("slope 90 0;strong powder 88;layer 0 powder 10 0 100 0;").toLoad(0), 99);
        Check.due("20: no such SLOPE", () -> x.toLoad(1), NO_SUCH);
        Check.due("20: no such SLOPE", () -> x.toLoad(-1), NO_SUCH);
    }

    private static void steepest() {
        SnowRecorder x = Check.on(EVEN);
        is("21: steepest", x.steepest(0), 54);
        is("21: no LAYERS", Check.on("slope 50 0;").steepest(0), 90);
        is("21: WEAK: 4 * 49 / 100 = 1", Check.on(WEAK).steepest(0), 49);
        is("21: 0", Check.on("slope 50 0;strong hoar 0;layer 0 hoar 1 0 10 0;layer 0 crust 99 0 99 0;layer 0 crust 1 0 99 0;").steepest(0), 0);
        Check.due("21: no such SLOPE", () -> x.steepest(1), NO_SUCH);
        Check.due("21: no such SLOPE", () -> x.steepest(-1), NO_SUCH);
    }

    private static void toWarm() {
        // HEAT 100 melts one, which wets what lies below: its STRENGTH is half of 10, by BURDEN 8.
        String text = "slope 50 10;holds facets 99;holds grains 99;strong grains 4;layer 0 facets 20 0 80 0;layer 0 crust 18 0 180 0;";
        SnowRecorder x = Check.on(text + "hour 0;");
        is("22: by 10", x.toWarm(0, 1), 10);
        // In two HOURS HEAT of each HOUR counts by itself.
        is("22: by 10 in two HOURS", x.toWarm(0, 2), 10);
        is("22: from -15 on", Check.on(text + "hour -15;").toWarm(0, 1), 25);
        is("22: from -40 on", Check.on(text + "hour -40;").toWarm(0, 1), 50);
        is("22: from -41 on", Check.on(text + "hour -41;").toWarm(0, 1), -1);
        // By 30 AIR is -11, then 15: the top one is at -2, takes 36 of HEAT 150, and one melts; by 29 it doesn't.
        is("22: in one of two HOURS", Check.on(text + "hour -41;hour -15;").toWarm(0, 2), 30);
        is("22: without a FORECAST", Check.on(text).toWarm(0, 1), 10);
        // At most 100: 9 more are no more than 1 more.
        is("22: at most 100", Check.on("slope 50 1;holds facets 99;holds grains 99;strong grains 4;layer 0 facets 20 0 80 0;"
            + "layer 0 crust 18 0 180 0;layer 0 powder 2 1 20 0;hour 99;").toWarm(0, 1), 1);
        is("22: none", Check.on("slope 50 20;layer 0 crust 99 0 99 0;hour 99;").toWarm(0, 24), -1);
        is("22: UNSTABLE as it is", Check.on(WEAK).toWarm(0, 1), 1);
        Check.due("22: no such SLOPE, and hours", () -> x.toWarm(1, 0), NO_SUCH);
        Check.due("22: hours", () -> x.toWarm(0, 0), ILLEGAL);
        Check.due("22: hours", () -> x.toWarm(0, 25), ILLEGAL);
        is("22: nothing goes by", x.count(2), 0);
        is("22: the FORECAST stays", x.forecast(0, 0), 0);
    }

    private static void matters() {
        SnowRecorder x = Check.on("slope 50 0;slope 50 0;layer 0 hoar 1 0 10 0;hour 0 snow 4;hour 0;hour 0 snow 6;");
        // Behind 3 HOURS: 10 * 50 / 100 = 5: 20; without the first 3: 33; without the last 2: 50.
        is("23: which", x.matters(0, 3, 0), 2);
        is("23: by how much", x.matters(0, 3, 1), 30);
        // Behind 1 and 2 HOURS there is only the first: 50, and 9999 without.
        is("23: which behind 2", x.matters(0, 2, 0), 0);
        is("23: by how much", x.matters(0, 2, 1), 9949);
        // Each comes round: 20 * 50 / 100 = 10: 10; without the first 6: 16; without the last 4: 25.
        is("23: which behind 6", x.matters(0, 6, 0), 2);
        is("23: by how much", x.matters(0, 6, 1), 15);
        SnowRecorder y = Check.on("slope 50 0;layer 0 hoar 1 0 10 0;hour 0 snow 4;hour 0 snow 4;");
        is("23: of like ones the first", y.matters(0, 2, 0), 0);
        is("23: none", Check.on("slope 50 0;hour 0 snow 4;").matters(0, 1, 0), -1);
        is("23: by none", Check.on("slope 50 0;hour 0 snow 4;").matters(0, 1, 1), 0);
        is("23: without a FORECAST", Check.on(WEAK).matters(0, 48, 0), -1);
        Check.due("23: no such SLOPE, and hours", () -> x.matters(2, 0, 0), NO_SUCH);
        Check.due("23: another what, and hours", () -> x.matters(0, 0, 2), NO_SUCH);
        Check.due("23: another what", () -> x.matters(0, 1, -1), NO_SUCH);
        Check.due("23: hours", () -> x.matters(0, 0, 0), ILLEGAL);
        Check.due("23: hours", () -> x.matters(0, 49, 0), ILLEGAL);
        is("23: the FORECAST stays", x.forecast(2, 1), 1);
    }

    private static void pitOf() {
        SnowRecorder x = Check.on("slope 1 0;slope 1 0;layer 1 crust 5 0 50 0;layer 1 crust 5 0 50 0;");
        x.pit(0);
        x.hours(7);
        x.pit(1);
        x.dig(1);
        int[][] due = {{0, 0, 0}, {1, 2, 7}};
        for (int pit = 0; pit < 2; pit++) {
            for (int what = 0; what < 3; what++) {
                is("24: pitOf(" + pit + ", " + what + ")", x.pitOf(pit, what), due[pit][what]);
            }
        }
        Check.due("24: no such PIT", () -> x.pitOf(2, 0), NO_SUCH);
        Check.due("24: no such PIT", () -> x.pitOf(-1, 0), NO_SUCH);
        Check.due("24: another what", () -> x.pitOf(0, 3), NO_SUCH);
        Check.due("24: another what", () -> x.pitOf(0, -1), NO_SUCH);
    }

    private static SnowRecorder pits() {
        SnowRecorder x = Check.on("slope 50 0;slope 50 0;slope 50 0;"
            + "layer 0 crust 9 0 9 0;layer 0 hoar 1 0 10 0;layer 0 powder 9 0 90 0;layer 0 grains 9 0 90 0;"
            + "layer 1 hoar 1 0 10 0;layer 1 crust 9 0 90 0;layer 1 grains 9 0 90 0;layer 1 powder 9 0 90 0;layer 1 facets 5 0 50 0;");
        x.pit(0);
        x.pit(1);
        x.pit(2);
        x.dig(0);
        x.fall(0, 1, 3);
        x.pit(0);
        return x;
    }

    private static void compare() {
        SnowRecorder x = pits();
        is("25: NAMES in both", x.compare(0, 3, 0), 3);
        is("25: NAMES in both", x.compare(0, 1, 0), 0);
        is("25: NAMES in both", x.compare(0, 2, 0), 0);
        // crust hoar powder grains, hoar crust grains powder facets: hoar powder, or crust grains ..
        is("25: the longest row", x.compare(0, 1, 1), 2);
        is("25: the longest row", x.compare(0, 3, 1), 3);
        is("25: the longest row", x.compare(0, 0, 1), 4);
        is("25: the longest row", x.compare(2, 0, 1), 0);
        // hoar is put in, crust stays, hoar is changed, powder stays, grains is changed.
        is("25: steps", x.compare(0, 1, 2), 3);
        is("25: steps", x.compare(1, 0, 2), 3);
        is("25: steps", x.compare(0, 3, 2), 1);
        is("25: steps", x.compare(0, 2, 2), 4);
        is("25: steps", x.compare(2, 1, 2), 5);
        is("25: steps", x.compare(2, 2, 2), 0);
        is("25: the same WEAKEST", x.compare(0, 3, 3), 1);
        is("25: another WEAKEST", x.compare(0, 1, 3), 0);
        is("25: one has none", x.compare(2, 0, 3), 0);
        is("25: both have none", x.compare(2, 2, 3), 0);
        Check.due("25: no such PIT", () -> x.compare(4, 0, 0), NO_SUCH);
        Check.due("25: no such PIT", () -> x.compare(0, 4, 0), NO_SUCH);
        Check.due("25: no such PIT", () -> x.compare(-1, 0, 0), NO_SUCH);
        Check.due("25: no such PIT", () -> x.compare(0, -1, 0), NO_SUCH);
        Check.due("25: another what", () -> x.compare(0, 0, 4), NO_SUCH);
        Check.due("25: another what", () -> x.compare(0, 0, -1), NO_SUCH);
    }

    private static void nearest() {
        SnowRecorder x = pits();
        is("26: nearest(0)", x.nearest(0), 0);
        is("26: nearest(1)", x.nearest(1), 1);
        is("26: nearest(2)", x.nearest(2), 2);
        SnowRecorder y = Check.on("slope 1 0;slope 1 0;slope 1 0;layer 0 crust 1 0 1 0;layer 0 crust 1 0 1 0;layer 1 crust 1 0 1 0;layer 2 crust 1 0 1 0;");
        y.pit(2);
        is("26: of like ones the first", y.nearest(0), 1);
        y.dig(2);
        y.dig(1);
        is("26: all by one: of like ones the first", y.nearest(0), 0);
        Check.due("26: no such PIT", () -> y.nearest(1), NO_SUCH);
        Check.due("26: no such PIT", () -> y.nearest(-1), NO_SUCH);
    }

    private static void note() {
        SnowRecorder x = Check.on("slope 1 0;");
        is("27: no such SLOPE", x.note(1, 0, 0), -1);
        is("27: no such SLOPE", x.note(-1, 0, 0), -1);
        is("27: hours", x.note(0, -1, 0), -1);
        is("27: hours", x.note(0, 49, 0), -1);
        is("27: depth", x.note(0, 0, -1), -1);
        is("27: depth", x.note(0, 0, 10000), -1);
        is("27: STATUS", x.count(17), 6);
        is("27: none is NOTED", x.count(13), 0);
        for (int i = 1; i <= 8; i++) {
            is("27: note", x.note(0, i == 1 ? 48 : 0, i == 2 ? 9999 : 0), i);
        }
        is("27: there are 8", x.note(0, 0, 0), -1);
        is("27: STATUS", x.count(17), 7);
        is("27: no ACT", x.count(12), 0);
    }

    private static void falls() {
        SnowRecorder x = Check.on("slope 0 0;hour 0 snow 5;hour 0 hoar;hour 0 snow 7;hour 0 rain 3;");
        is("28: all others suit", x.falls(0), 147);
        is("28: the first", x.falls(1), 1);
        is("28: so without", x.falls(2), 1);
        x.note(0, 3, 150);
        // 50 and 70: 80 and 70, or 50 and 100; RAIN comes behind that, and all its 49 don't suit.
        is("28: two suit", x.falls(0), 2);
        is("28: the first", x.falls(1), 8);
        is("28: not so without", x.falls(2), 0);
        x.note(0, 1, 50);
        is("28: one suits", x.falls(0), 1);
        is("28: the first", x.falls(1), 210);
        x.note(0, 0, 1);
        is("28: none suits", x.falls(0), 0);
        is("28: none", x.falls(1), -1);
        x.forget();
        x.note(0, 3, 120);
        // As it is: every RAIN suits.
        is("28: RAIN", x.falls(0), 49);
        is("28: the first", x.falls(1), 301);
        is("28: so without", x.falls(2), 1);
        // From now on: TIME is 2, the HOUR that comes is the third, and the first one comes behind two.
        SnowRecorder y = Check.on("slope 0 0;hour 0 snow 5;hour 0;hour 0 snow 7;hour 0;");
        y.hours(2);
        y.note(0, 1, 140);
        is("28: from now on", y.falls(0), 1);
        is("28: from now on", y.falls(1), 209);
        Check.due("28: another what", () -> x.falls(3), NO_SUCH);
        Check.due("28: another what", () -> x.falls(-1), NO_SUCH);
        is("28: the FORECAST stays", x.forecast(0, 2), 5);
        is("28: nothing goes by", x.count(2), 0);
    }

    private static void look() {
        SnowRecorder x = Check.on("slope 0 0;slope 0 0;layer 1 crust 40 0 99 0;hour 0 rain 5;hour 0;");
        // RAIN runs off where there are no LAYERS: one DEPTH there; on CRUST none is held either.
        is("29: of like ones the first", x.look(0), 0);
        is("29: one", x.look(1), 1);
        SnowRecorder y = Check.on("slope 0 0;slope 0 0;layer 1 crust 50 0 50 0;holds crust 99;"
            + "hour 0 rain 5;" + "hour 0;".repeat(23));
        // The DEPTH of slope 1 is that of ICE and WATER: by 49 RAINS up to 49 of which are held.
        is("29: which", y.look(0), 1);
        is("29: how many unlike", y.look(1), 48);
        y.note(1, 1, 57);
        is("29: by the one that suits", y.look(1), 1);
        is("29: of like ones the first", y.look(0), 0);
        y.note(1, 1, 58);
        is("29: none suits", y.look(0), -1);
        is("29: none suits", y.look(1), 0);
        is("29: no SLOPES", Check.on("hour 0 snow 5;").look(0), -1);
        is("29: no SLOPES", Check.on("hour 0 snow 5;").look(1), 0);
        is("29: no FALLS", Check.on("slope 1 0;hour 0 hoar;").look(0), -1);
        Check.due("29: another what", () -> x.look(2), NO_SUCH);
        Check.due("29: another what", () -> x.look(-1), NO_SUCH);
    }

    private static void forget() {
        SnowRecorder x = Check.on("slope 0 0;");
        x.note(0, 0, 1);
        x.note(0, 99, 1);
        is("30: not so", x.falls(2), 0);
        x.forget();
        is("30: NOTED", x.count(13), 0);
        is("30: so", x.falls(2), 1);
        is("30: STATUS stays", x.count(17), 1);
        is("30: note", x.note(0, 0, 0), 1);
    }

    private static void odds() {
        SnowRecorder x = Check.on("slope 50 0;slope 50 0;layer 0 hoar 1 0 10 0;hour 0 snow 4;hour 0 snow 4;hour 0;");
        is("31: one HOUR", x.odds(0, 1, 3), 7);
        is("31: two HOURS", x.odds(0, 2, 3), 91);
        is("31: an HOUR without a FALL", x.odds(0, 3, 3), 910);
        is("31: four", x.odds(0, 4, 3), 9730);
        is("31: six", x.odds(0, 6, 3), 991900);
        is("31: tenths 0", x.odds(0, 6, 0), 1000000);
        is("31: tenths 10", x.odds(0, 6, 10), 0);
        is("31: UNSTABLE as it is", Check.on(WEAK).odds(0, 2, 5), 100);
        is("31: no LAYERS at first", x.odds(1, 1, 5), 0);
        Check.due("31: no such SLOPE, and hours", () -> x.odds(2, 0, 0), NO_SUCH);
        Check.due("31: hours", () -> x.odds(0, 0, 0), ILLEGAL);
        Check.due("31: hours", () -> x.odds(0, 7, 0), ILLEGAL);
        Check.due("31: tenths", () -> x.odds(0, 1, -1), ILLEGAL);
        Check.due("31: tenths", () -> x.odds(0, 1, 11), ILLEGAL);
        is("31: nothing goes by", x.count(2), 0);
        // By AIR at 0 HOAR doesn't come either way.
        is("31: HOAR", Check.on(WEAK + "hour 0 hoar;").odds(0, 1, 4), 10);
    }

    private static void years() {
        SnowRecorder x = Check.on(WEAK);
        is("32: none goes by", x.years(3, 0, 0), 0);
        is("32: none goes by", x.years(3, 0, 2), 50);
        // By seed 3: 17747 MOD 6 is 5, a SLIDE; then 7107 MOD 6 is 3, RAIN.
        is("32: SLIDES", x.years(3, 1, 0), 1);
        is("32: SLID", x.years(3, 1, 1), 4);
        is("32: DEPTH", x.years(3, 1, 2), 10);
        is("32: RAIN changes no DEPTH", x.years(3, 2, 2), 10);
        // By seed 6: 2726 MOD 6 is 2, SNOW; 25515 MOD 1; 10742 MOD 20 and 1 is 3; then 0 HOURS: 4978 MOD 6 and 1 is 5.
        is("32: SNOW", x.years(6, 1, 2), 80);
        is("32: no SLIDE", x.years(6, 1, 0), 0);
        // By seed 7: 19564 MOD 6 is 4: 4 of DEPTH 40 is DUG away.
        is("32: DUG away", x.years(7, 1, 2), 10);
        is("32: not SLID", x.years(7, 1, 1), 0);
        is("32: all as it was", x.slope(0, 3), 50);
        is("32: TIME", x.count(2), 0);
        is("32: ACTS", x.count(12), 0);
        // SLIDES that were are not counted.
        x.slide(0);
        is("32: SLIDES", x.years(3, 1, 0), 0);
        is("32: SLID", x.years(3, 1, 1), 0);
        // Two SLOPES: 25515 MOD 2 is 1; by seed 3 both slide.
        SnowRecorder y = Check.on("slope 50 0;slope 50 0;layer 0 hoar 1 0 10 0;layer 0 powder 4 0 40 0;layer 1 hoar 1 0 10 0;layer 1 powder 7 1 80 0;");
        is("32: both", y.years(3, 1, 0), 2);
        is("32: of both", y.years(3, 1, 1), 12);
        is("32: of both", y.years(3, 1, 2), 20);
        // Seed 5: 18655 MOD 6 is 1: 8457 MOD 6 and 1 is 4 HOURS of SNOW; then 10616 MOD 6 is 2: SNOW of 10193 MOD 20 and 1.
        SnowRecorder z = Check.on("slope 50 0;hour 0 snow 1;");
        is("32: HOURS", z.years(5, 1, 2), 40);
        is("32: and SNOW of 14", z.years(5, 2, 2), 180);
        is("32: by 30", z.years(Integer.MIN_VALUE, 30, 0) >= 0 ? 1 : 0, 1);
        Check.due("32: another what, and n", () -> x.years(1, 31, 3), NO_SUCH);
        Check.due("32: another what", () -> x.years(1, 1, -1), NO_SUCH);
        Check.due("32: n", () -> x.years(1, 31, 0), ILLEGAL);
        Check.due("32: n", () -> x.years(1, -1, 0), ILLEGAL);
    }

    private static void imageAndRestore() {
        SnowRecorder x = Check.on(WEAK + "hour -10 snow 3;");
        x.pit(0);
        x.hours(2);
        x.note(0, 1, 1);
        x.hours(0);
        x.image();
        int[] kept = new int[18];
        for (int what = 0; what < 18; what++) {
            kept[what] = x.count(what);
        }
        x.slide(0);
        x.undo();
        x.undo();
        x.undo();
        x.fall(0, 2, 20);
        x.pit(0);
        x.dig(0);
        x.forget();
        x.note(9, 0, 0);
        x.note(0, 2, 2);
        x.note(0, 3, 3);
        x.feed(0, 0, 0, 0, 0);
        for (int round = 0; round < 2; round++) {
            is("34: restore()", x.restore() ? 1 : 0, 1);
            for (int what = 0; what < 18; what++) {
                is("34: count(" + what + ")", x.count(what), what == 14 ? 20 : kept[what]);
            }
            is("34: the PIT", x.pitOf(0, 1), 2);
            is("34: undo()", x.undo(), 1);
            is("34: TIME", x.count(2), 0);
            is("34: undo()", x.undo(), 0);
            is("34: PITS", x.count(11), 0);
        }
        x.hours(7);
        x.image();
        x.hours(1);
        is("33: in place of another one", x.restore() ? 1 : 0, 1);
        is("33: TIME", x.count(2), 7);
        is("34: none", new SnowRecorder().restore() ? 1 : 0, 0);
        // All ACTS of the IMAGE come back, the first one too.
        SnowRecorder w = Check.on("slope 1 0;layer 0 crust 7 0 7 0;");
        w.fall(0, 1, 1);
        w.fall(0, 1, 2);
        w.image();
        w.undo();
        w.undo();
        w.dig(0);
        w.fall(0, 1, 9);
        w.fall(0, 1, 9);
        w.restore();
        is("34: undo()", w.undo(), 1);
        is("34: ICE ahead of the second", w.slope(0, 4), 8);
        is("34: undo()", w.undo(), 0);
        is("34: ICE ahead of the first", w.slope(0, 4), 7);
        // A PIT that was UNDONE behind the IMAGE, and another one in its place.
        SnowRecorder y = Check.on("slope 1 0;slope 1 0;layer 1 crust 1 0 1 0;");
        y.pit(1);
        y.image();
        y.undo();
        y.pit(0);
        is("34: another PIT", y.pitOf(0, 0), 0);
        y.restore();
        is("34: the one that was", y.pitOf(0, 0), 1);
    }
}
