/** Terms 2: what an hour does from (a) to (g), strength, burden, ratio; each value worked out by hand. */
public final class HoursTest {
    public static void main(String[] args) {
        theFall();
        joined();
        warmedAndMelted();
        cooled();
        tempsGoTogether();
        frozen();
        sinking();
        pressed();
        kinds();
        strength();
        namesAndTime();
        largeNumbers();
        Check.finish();
    }

    /** KIND, ICE, WATER, DEPTH, TEMP, AGE, NAME of a layer. */
    private static void layerIs(String why, SnowRecorder x, int slope, int layer, int... due) {
        for (int what = 0; what < due.length; what++) {
            int asked = what;
            Check.due(why + ": layer(" + slope + ", " + layer + ", " + what + ")", () -> x.layer(slope, layer, asked), due[what]);
        }
    }

    private static SnowRecorder hourOn(String text) {
        SnowRecorder x = Check.on(text);
        x.hours(1);
        return x;
    }

    private static void theFall() {
        SnowRecorder x = hourOn("slope 30 0;hour -80 snow 7;hour 40 snow 3;hour -10 hoar;hour 0 hoar;hour 5 hoar;");
        // (c): -80 less -80 / 8.
        layerIs("SNOW", x, 0, 0, 0, 7, 0, 70, -70, 1, 0);
        x.hours(1);
        layerIs("SNOW above 0", x, 0, 1, 0, 3, 0, 30, -8, 1, 1);
        x.hours(1);
        Check.same("HOAR comes", x.slope(0, 2), 3);
        layerIs("HOAR", x, 0, 2, 4, 1, 0, 10, -10, 1, 2);
        x.hours(2);
        Check.same("HOAR doesn't come at 0 and above", x.slope(0, 2), 3);
        Check.same("NAMES", x.count(4), 3);
        x = hourOn("slope 30 0;hour 0 rain 9;");
        Check.same("RAIN without LAYERS", x.slope(0, 6), 9);
        Check.same("RAIN without LAYERS", x.slope(0, 2), 0);
        x = hourOn("slope 30 0;layer 0 grains 50 0 100 0;layer 0 grains 50 0 100 0;hour 0 rain 6;");
        layerIs("RAIN: 4 is held", x, 0, 1, 1, 50, 4, 100, 0, 1, 1);
        // 100 * (54 + 26) / 4000 = 2.
        layerIs("RAIN: 2 sink", x, 0, 0, 1, 50, 2, 98, 0, 1, 0);
    }

    private static void joined() {
        StringBuilder text = new StringBuilder("slope 30 0;layer 0 crust 10 3 20 33;layer 0 facets 11 2 40 12;");
        for (int i = 2; i < 12; i++) {
            text.append("layer 0 grains 5 0 9 ").append(i).append(';');
        }
        SnowRecorder x = Check.on(text + "hour -50 snow 8;");
        Check.same("a 13th", x.fall(0, 1, 4), 12);
        // (-33 * 10 - 12 * 11) / 21 = -22.
        layerIs("the one with more ICE", x, 0, 0, 2, 21, 5, 60, -22, 0, 1);
        layerIs("LAYER 2 is LAYER 1", x, 0, 1, 1, 5, 0, 9, -2, 0, 2);
        layerIs("LAYER 11 is LAYER 10", x, 0, 10, 1, 5, 0, 9, -11, 0, 11);
        layerIs("the new one", x, 0, 11, 0, 4, 0, 40, -50, 0, 12);
        Check.same("RAIN joins none", x.fall(0, 2, 4), 12);
        Check.same("it joins none", x.layer(0, 0, 1), 21);
        Check.same("HOAR joins", x.fall(0, 3, 0), 12);
        Check.same("of 21 and 5", x.layer(0, 0, 1), 26);
        Check.same("the lower one's KIND", x.layer(0, 0, 0), 2);
        Check.same("the lower one's NAME", x.layer(0, 0, 6), 1);
        // Of like ones the lower one; AGE the greater.
        x = Check.on("slope 30 0;layer 0 crust 9 0 20 0;");
        x.hours(2);
        for (int i = 0; i < 11; i++) {
            x.fall(0, 1, 9);
        }
        Check.same("12", x.slope(0, 2), 12);
        x.fall(0, 1, 1);
        layerIs("of like ones the lower one", x, 0, 0, 3, 18, 0, 110, 0, 2, 0);
    }

    private static void warmedAndMelted() {
        // HEAT 600: the top one takes 20 to be at 0, 200 to melt; below it 3 of 5 melt.
        SnowRecorder x = hourOn("slope 30 10;layer 0 grains 5 0 20 0;layer 0 powder 2 1 20 10;hour 60;");
        Check.same("one is gone", x.slope(0, 2), 1);
        layerIs("melted", x, 0, 0, 1, 2, 0, 20, 0, 1, 0);
        Check.same("all its WATER sinks", x.slope(0, 6), 6);
        // All is gone: 3 of WATER; what HEAT is left is lost.
        x = hourOn("slope 30 20;layer 0 powder 2 1 20 10;hour 100;");
        Check.same("all is gone", x.slope(0, 2), 0);
        Check.same("RUNOFF", x.slope(0, 6), 3);
        Check.same("no WEAKEST", x.slope(0, 7), -1);
        // HEAT 99 by ICE 49: by 2 warmer, and not yet at 0.
        x = hourOn("slope 30 1;layer 0 grains 49 0 100 30;hour 99;");
        layerIs("warmed by 2: -28, less -28 / 8", x, 0, 0, 1, 49, 0, 100, -25, 1, 0);
        // At 0 with 190 left: one melts.
        x = hourOn("slope 30 20;holds grains 99;layer 0 grains 10 0 100 1;hour 10;");
        layerIs("one melts", x, 0, 0, 1, 9, 1, 100, 0, 1, 0);
        // The HEAT just melts the top one: the next one is not touched.
        x = hourOn("slope 30 10;layer 0 crust 10 0 100 16;layer 0 powder 3 0 30 0;hour 30;");
        Check.same("one is gone", x.slope(0, 2), 1);
        // Its 3 of WATER freeze: 10 * 14 / 100 = 1, and 2 are left: TEMP 0; 11 * 2 / 100 = 0 is held.
        layerIs("wetted from above", x, 0, 0, 3, 11, 0, 100, 0, 1, 0);
        Check.same("RUNOFF", x.slope(0, 6), 2);
        // The least HEAT of all: by 20 / 5 and by 1 / 1.
        Check.same("AIR 1", hourOn("slope 30 20;layer 0 crust 5 0 50 8;hour 1;").layer(0, 0, 4), -4);
        Check.same("HEAT 1", hourOn("slope 30 1;layer 0 crust 1 0 10 5;hour 1;").layer(0, 0, 4), -4);
        // OPEN 0: no HEAT at all.
        x = hourOn("slope 30 0;layer 0 crust 10 0 100 7;hour 100;");
        Check.same("not warmed", x.layer(0, 0, 4), -7);
    }

    private static void cooled() {
        // (-100 + 20) / 4 = -20: -40, less -40 / 8.
        SnowRecorder x = hourOn("slope 30 9;layer 0 crust 10 0 99 20;hour -100;");
        Check.same("cooled", x.layer(0, 0, 4), -35);
        // (-8 + 5) / 4 is cut to 0, and so is -5 / 8.
        x = hourOn("slope 30 9;layer 0 crust 10 0 99 5;hour -8;");
        Check.same("cut", x.layer(0, 0, 4), -5);
        // AIR 0: (0 + 42) / 4 = 10: -32, less -4.
        x = hourOn("slope 30 9;layer 0 crust 10 0 99 42;hour 0;");
        Check.same("warmer at AIR 0", x.layer(0, 0, 4), -28);
        x = hourOn("slope 30 9;layer 0 crust 10 0 99 42;");
        Check.same("without a FORECAST", x.layer(0, 0, 4), -28);
    }

    private static void tempsGoTogether() {
        // AIR 100, OPEN 0 changes nothing in (b): only (c) is seen.
        SnowRecorder x = hourOn("slope 30 0;layer 0 crust 10 0 99 80;layer 0 crust 10 0 99 0;layer 0 crust 10 0 99 240;hour 100;");
        // D upper: -240 / 8 = -30; D lower: 80 / 8 = 10; the ground: -80 / 8 = -10.
        Check.same("top", x.layer(0, 2, 4), -210);
        Check.same("middle: 0 - 30 - 10", x.layer(0, 1, 4), -40);
        Check.same("lowest: -80 + 10 + 10", x.layer(0, 0, 4), -60);
        x = hourOn("slope 30 0;layer 0 crust 10 0 99 9;layer 0 crust 10 0 99 1;hour 100;");
        // D: 8 / 8 = 1; lowest -9 + 1 + 1, top -1 - 1.
        Check.same("lowest", x.layer(0, 0, 4), -7);
        Check.same("top", x.layer(0, 1, 4), -2);
        // Like ones give one another nothing.
        x = hourOn("slope 30 0;layer 0 crust 9 0 99 100;layer 0 crust 9 0 99 100;layer 0 crust 9 0 99 0;hour 100;");
        Check.same("top: 0 - 12", x.layer(0, 2, 4), -12);
        Check.same("middle: -100 + 12", x.layer(0, 1, 4), -88);
        Check.same("lowest: -100 + 12", x.layer(0, 0, 4), -88);
    }

    private static void frozen() {
        // At -7: 50 * 7 / 100 = 3 freeze, WATER is left; 53 * 2 / 100 = 1 is held.
        SnowRecorder x = hourOn("slope 30 0;layer 0 facets 50 20 100 8;hour -8;");
        layerIs("WATER is left", x, 0, 0, 3, 53, 1, 100, 0, 1, 0);
        Check.same("16 sink", x.slope(0, 6), 16);
        // At -35: 20 * 35 / 100 = 7, but there are 2: warmer by 200 / 20.
        x = hourOn("slope 30 0;layer 0 powder 20 2 100 40;hour -40;");
        layerIs("all freezes", x, 0, 0, 3, 22, 0, 100, -25, 1, 0);
        // 3 * 7 / 100 = 0: nothing freezes, but WATER is left, so TEMP is 0.
        x = hourOn("slope 30 0;holds powder 99;layer 0 powder 3 1 99 8;hour -8;");
        layerIs("nothing freezes", x, 0, 0, 1, 3, 1, 99, 0, 1, 0);
        // Just all of it: 10 * 30 / 100 = 3: warmer by 300 / 10, to 0.
        x = hourOn("slope 30 0;layer 0 hoar 10 3 100 34;hour -34;");
        layerIs("just all", x, 0, 0, 3, 13, 0, 100, 0, 1, 0);
    }

    private static void sinking() {
        // From the top to the ground: what sinks freezes in the one below.
        SnowRecorder x = hourOn("slope 30 0;layer 0 crust 50 0 99 80;layer 0 grains 50 10 99 0;hour 100;");
        // (c): D = 80 / 8 = 10: top -10, lowest -60. Top: 50 * 10 / 100 = 5 freeze, 5 left, CRUST holds 1: 4 sink.
        layerIs("top", x, 0, 1, 3, 55, 1, 99, 0, 1, 1);
        // Lowest: 50 * 60 / 100 = 30, all 4 freeze: warmer by 8.
        layerIs("lowest", x, 0, 0, 3, 54, 0, 99, -52, 1, 0);
        Check.same("no RUNOFF", x.slope(0, 6), 0);
        x = hourOn("slope 30 0;holds hoar 50;layer 0 hoar 9 9 99 0;");
        Check.same("9 * 50 / 100 is held", x.layer(0, 0, 2), 4);
        Check.same("5 run off", x.slope(0, 6), 5);
        Check.same("HOAR with WATER", x.layer(0, 0, 0), 1);
    }

    private static void pressed() {
        // LOAD: 40 + 3, and 20 / 2.
        SnowRecorder x = Check.on("slope 30 0;layer 0 powder 19 0 500 0;layer 0 crust 40 3 400 0;stiff powder 700;holds crust 9;");
        Check.same("LOAD", x.layer(0, 0, 7), 43 + 9);
        Check.same("LOAD on top", x.layer(0, 1, 7), 21);
        x.hours(1);
        // 500 * 52 / 700 = 37; 400 * 21 / 9000 = 0.
        Check.same("less by 37", x.layer(0, 0, 3), 463);
        Check.same("less by 0", x.layer(0, 1, 3), 400);
        // No less than ICE and WATER together.
        x = hourOn("slope 30 0;layer 0 powder 9 0 50 0;layer 0 powder 9 0 9 0;stiff powder 1;");
        Check.same("no less than 9", x.layer(0, 0, 3), 9);
        Check.same("no less than 9", x.layer(0, 1, 3), 9);
        // 50 * 1 / 1 and 50 * 1 / 2.
        Check.same("STIFF 1", hourOn("slope 30 0;layer 0 powder 2 0 50 0;stiff powder 1;").layer(0, 0, 3), 2);
        Check.same("STIFF 2", hourOn("slope 30 0;layer 0 powder 2 0 50 0;stiff powder 2;").layer(0, 0, 3), 25);
        // Also if it was less: RAIN makes it more than its DEPTH.
        x = hourOn("slope 30 0;holds grains 99;layer 0 grains 40 0 40 0;hour 0 rain 30;");
        Check.same("also if it was", x.layer(0, 0, 3), 70);
        // STIFF 1 and a long row of HOURS: by more than all of it.
        x.hours(24);
        Check.same("ICE and WATER together", x.slope(0, 3), x.slope(0, 4) + x.slope(0, 5));
    }

    private static void kinds() {
        // GRADE 100 * 10 / 50 = 20 is enough, by 51 it isn't.
        Check.same("FACETS", hourOn("slope 30 0;layer 0 powder 5 0 50 100;hour -100;").layer(0, 0, 0), 2);
        Check.same("POWDER", hourOn("slope 30 0;layer 0 powder 5 0 51 100;hour -100;").layer(0, 0, 0), 0);
        Check.same("GRAINS are FACETS", hourOn("slope 30 0;layer 0 grains 5 0 50 100;hour -100;").layer(0, 0, 0), 2);
        Check.same("CRUST stays", hourOn("slope 30 0;layer 0 crust 5 0 50 100;hour -100;").layer(0, 0, 0), 3);
        Check.same("HOAR stays", hourOn("slope 30 0;layer 0 hoar 5 0 50 100;hour -100;").layer(0, 0, 0), 4);
        String wet = " 50 1 99 0;hour 0;holds powder 9;holds facets 9;holds hoar 9;holds crust 9;";
        Check.same("wet POWDER", hourOn("slope 30 0;layer 0 powder" + wet).layer(0, 0, 0), 1);
        Check.same("wet GRAINS", hourOn("slope 30 0;layer 0 grains" + wet).layer(0, 0, 0), 1);
        Check.same("wet FACETS", hourOn("slope 30 0;layer 0 facets" + wet).layer(0, 0, 0), 1);
        Check.same("wet CRUST", hourOn("slope 30 0;layer 0 crust" + wet).layer(0, 0, 0), 3);
        Check.same("wet HOAR", hourOn("slope 30 0;layer 0 hoar" + wet).layer(0, 0, 0), 1);
        SnowRecorder x = Check.on("slope 30 0;layer 0 powder 5 0 50 0;layer 0 facets 5 0 50 0;layer 0 hoar 5 0 50 0;layer 0 crust 5 0 50 0;");
        x.hours(24);
        Check.same("AGE 23 in (f)", x.layer(0, 0, 0), 0);
        Check.same("AGE 23 in (f)", x.layer(0, 1, 0), 2);
        Check.same("AGE", x.layer(0, 0, 5), 24);
        x.hours(1);
        Check.same("AGE 24 in (f)", x.layer(0, 0, 0), 1);
        Check.same("AGE 24 in (f)", x.layer(0, 1, 0), 1);
        Check.same("HOAR stays", x.layer(0, 2, 0), 4);
        Check.same("CRUST stays", x.layer(0, 3, 0), 3);
        // FACETS stay as old as they are while GRADE is 20 or more.
        x = Check.on("slope 30 0;layer 0 facets 5 0 50 100;hour -100;");
        x.hours(24);
        x.hours(2);
        Check.same("FACETS", x.layer(0, 0, 0), 2);
        // GRADE is told by the DEPTH behind (e): 51 is pressed to 50.
        x = hourOn("slope 30 0;layer 0 powder 5 0 51 100;hour -100;stiff powder 102;");
        Check.same("DEPTH", x.layer(0, 0, 3), 50);
        Check.same("FACETS", x.layer(0, 0, 0), 2);
        // AIR above 0 counts as 0; the difference isn't below 0.
        x = Check.on("slope 30 0;layer 0 crust 5 0 50 100;layer 0 crust 5 0 40 0;hour 100;");
        Check.same("GRADE on top: 0 and -100", x.layer(0, 1, 8), 25);
        Check.same("GRADE below: 0 and 0", x.layer(0, 0, 8), 0);
        Check.same("GRADE by AIR 1", Check.on("slope 30 0;layer 0 crust 5 0 10 0;hour 1;").layer(0, 0, 8), 0);
    }

    private static void strength() {
        SnowRecorder x = Check.on("slope 70 0;layer 0 grains 33 1 90 0;layer 0 grains 34 1 90 0;layer 0 hoar 5 0 50 0;");
        // 12 * 34 * 10 / 90 = 45, and half of it: 100 is 99 or more.
        Check.same("half", x.layer(0, 0, 9), 22);
        // 12 * 35 * 10 / 90 = 46: 100 is less than 102.
        Check.same("whole", x.layer(0, 1, 9), 46);
        Check.same("HOAR", x.layer(0, 2, 9), 1);
        // One freezes, ICE is 100 and WATER 3: just enough for half of 40 * 103 * 10 / 103.
        SnowRecorder y = hourOn("slope 30 0;holds crust 3;layer 0 crust 99 4 103 2;hour -2;");
        layerIs("just enough", y, 0, 0, 3, 100, 3, 103, 0, 1, 0);
        Check.same("just half", y.layer(0, 0, 9), 200);
        Check.same("BURDEN: 40 * 70 / 100", x.layer(0, 0, 10), 28);
        Check.same("BURDEN: 5 * 70 / 100", x.layer(0, 1, 10), 3);
        Check.same("no BURDEN", x.layer(0, 2, 10), 0);
        Check.same("RATIO 2200 / 28", x.layer(0, 0, 11), 78);
        Check.same("RATIO 4600 / 3", x.layer(0, 1, 11), 1533);
        Check.same("RATIO without", x.layer(0, 2, 11), 9999);
        Check.same("WEAKEST", x.slope(0, 7), 0);
        Check.same("its RATIO", x.slope(0, 8), 78);
        Check.same("UNSTABLE", x.slope(0, 9), 1);
        x = Check.on("slope 50 0;layer 0 crust 99 0 99 0;layer 0 crust 99 0 99 0;layer 0 powder 2 0 99 0;");
        Check.same("at most 9999", x.layer(0, 1, 11), 9999);
        // 40000 / 50 = 800.
        Check.same("the lower one", x.layer(0, 0, 11), 800);
        x = Check.on("slope 50 0;layer 0 powder 40 0 400 0;layer 0 powder 2 0 20 0;layer 0 powder 4 0 40 0;");
        // 3 * 100 / 3, 3 * 100 / 2.
        Check.same("100", x.slope(0, 8), 100);
        Check.same("not below 100", x.slope(0, 9), 0);
        x = Check.on("slope 0 0;layer 0 powder 40 0 400 0;layer 0 powder 2 0 20 0;");
        Check.same("of like ones the lowest", x.slope(0, 7), 0);
        x = Check.on("slope 90 0;layer 0 hoar 1 0 10 0;layer 0 crust 5 0 10 0;layer 0 hoar 1 0 10 0;layer 0 crust 6 0 10 0;");
        // Burdens 10 and 5: 100 / 10 = 10, 100 / 5 = 20.
        Check.same("the lower one", x.slope(0, 8), 10);
    }

    private static void namesAndTime() {
        SnowRecorder x = Check.on("slope 30 0;slope 30 0;layer 1 crust 5 0 50 0;hour 0 snow 1;hour 0;hour 0 rain 1;");
        x.hours(4);
        // Slope by slope: 1, 2, and at TIME 3 the FORECAST comes round: 3, 4.
        Check.same("NAMES", x.count(4), 5);
        Check.same("first of slope 0", x.layer(0, 0, 6), 1);
        Check.same("second of slope 1", x.layer(1, 1, 6), 2);
        Check.same("second of slope 0", x.layer(0, 1, 6), 3);
        Check.same("third of slope 1", x.layer(1, 2, 6), 4);
        Check.same("TIME", x.count(2), 4);
        Check.same("AGE", x.layer(0, 0, 5), 4);
        Check.same("AGE", x.layer(0, 1, 5), 1);
    }

    private static void largeNumbers() {
        // Two thousand HOURS of the most SNOW on SLOPES that aren't pressed: no product may wrap.
        SnowRecorder x = Check.on("slope 90 0;stiff powder 9999;stiff grains 9999;stiff facets 9999;strong powder 99;hour -300 snow 50;");
        for (int i = 0; i < 83; i++) {
            x.hours(24);
        }
        x.hours(8);
        Check.same("TIME", x.count(2), 2000);
        Check.same("no more", x.hours(1), -1);
        Check.same("ICE", x.slope(0, 4), 100000);
        Check.same("LAYERS", x.slope(0, 2), 12);
        Check.same("DEPTH", x.layer(0, 0, 3), x.layer(0, 0, 1));
        Check.same("BURDEN: 550 * 90 / 100", x.layer(0, 0, 10), 495);
        // A flood on one thin LAYER: 10 * 99 * WATER passes all bounds of an int by 100.
        x = Check.on("slope 90 0;strong powder 99;layer 0 powder 1 0 1 0;layer 0 powder 99 0 99 0;");
        x.dig(0);
        for (int i = 0; i < 460; i++) {
            x.fall(0, 2, 50);
        }
        x.fall(0, 1, 2);
        Check.same("STRENGTH", x.layer(0, 0, 9), 99 * 23001 * 10 / 2);
        Check.same("RATIO", x.layer(0, 0, 11), 9999);
    }
}
