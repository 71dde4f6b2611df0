/** Terms 2: each sentence that names an edge of an hour, of strength and of what is kept, worked out by hand. */
public final class HourEdgesTest {
    /** AIR 100 on OPEN 0: nothing is warmed or cooled from the top, and (c) to (g) are seen alone. */
    private static final String STILL = "slope 50 0;hour 100;";

    /** Ten thin LAYERS that fill a SLOPE on which two are told. */
    private static final String TEN = "layer 0 crust 1 0 1 0;".repeat(10);

    public static void main(String[] args) throws Exception {
        theHourThatComes();
        whatFalls();
        joined();
        warmed();
        melted();
        cooled();
        tempsGoTogether();
        freezes();
        sinks();
        pressed();
        grades();
        kinds();
        strength();
        ratio();
        taps();
        acts();
        whatALayerHas();
        Run.finish();
    }

    private static void theHourThatComes() {
        Run.says("the HOUR of the FORECAST is TIME MOD how many there are (without any: AIR 0, no FALL)")
            .tell("slope 0 0;hour -1 snow 1;hour 0;hour -1 snow 2;")
            .due("hours(3)=3 slope(0,2)=2 hours(1)=4 slope(0,2)=3 layer(0,2,1)=1 hours(2)=6 layer(0,3,1)=2");
        // (0 + 42) / 4 = 10: -32, less -32 / 8.
        Run.says("the HOUR of the FORECAST is TIME MOD how many there are (without any: AIR 0, no FALL)").tell("slope 0 9;layer 0 crust 10 0 99 42;")
            .due("layer(0,0,8)=0 fall(0,3,1)=-1 hours(1)=1 layer(0,0,4)=-28 slope(0,2)=1 slope(0,6)=0");
        Run.says("SLOPE by SLOPE, all of (a) to (g), then TIME (0 first) is one more.").tell("slope 0 0;slope 0 0;hour -8 snow 1;")
            .due("count(2)=0 hours(2)=2 count(2)=2 layer(0,0,6)=0 layer(1,0,6)=1 layer(0,1,6)=2 layer(1,1,6)=3 layer(0,0,5)=2 layer(0,1,5)=1");
        Run.says("(g) AGE is one more.").tell("slope 0 0;" + "layer 0 crust 5 0 9 8;".repeat(12)).due("hours(3) layer(0,0,5)=3 layer(0,11,5)=3");
        Run.says("(g) AGE is one more.").tell("slope 0 0;layer 0 crust 5 0 5 0;")
            .due("layer(0,0,5)=0 hours(1)=1 layer(0,0,5)=1 hours(24)=25 layer(0,0,5)=25");
    }

    private static void whatFalls() {
        Run.says("SNOW: a LAYER of POWDER comes on top: ICE so much, DEPTH ten times as much").tell("slope 0 0;").due("fall(0,1,1)=1 fall(0,1,50)=2")
            .told(0, 0, "0 powder of 1 in 10 at 0;").told(0, 1, "1 powder of 50 in 500 at 0;");
        Run.says("HOAR: one of HOAR, ICE 1, DEPTH 10, if AIR is below 0 (else nothing)").tell("slope 0 0;hour -1 hoar;hour 0 hoar;hour 1 hoar;")
            .due("hours(1)=1")
            .told(0, 0, "0 hoar of 1 in 10 at -1;").due("hours(2)=3 slope(0,2)=1 count(4)=1 hours(1)=4 slope(0,2)=2 count(4)=2");
        Run.says("TEMP is AIR, or 0, if that is less; WATER, AGE 0.").tell("slope 0 0;hour -300;hour 100;hour 0;hour -1;")
.due("fall(0,1,1) layer(0,0,4)=-300 layer(0,0,2)=0 layer(0,0,5)=0 hours(1) fall(0,1,1) layer(0,1,4)=0 layer(0,1,5)=0 hours(1)")
            .due("fall(0,1,1) layer(0,2,4)=0")
            .due("hours(1) fall(0,1,1) layer(0,3,4)=-1 fall(0,3,1) layer(0,4,4)=-1");
        // Where an old one lay before, too.
        Run.says("TEMP is AIR, or 0, if that is less; WATER, AGE 0.").tell("slope 0 0;layer 0 crust 9 9 99 99;")
            .due("hours(5) dig(0)=0 fall(0,1,1)=1").told(0, 0, "1 powder of 1 in 10 at 0;").due("layer(0,0,5)=0 layer(0,0,2)=0");
        Run.says("RAIN: WATER of the top LAYER is so much more; without LAYERS it is RUNOFF.")
            .tell("slope 0 0;slope 0 0;layer 0 crust 1 0 9 0;layer 0 crust 1 2 9 0;")
.due("fall(0,2,50)=2 layer(0,1,2)=52 layer(0,0,2)=0 layer(0,1,3)=9 slope(0,6)=0 fall(1,2,50)=0 fall(1,2,1)=0 slope(1,6)=51 count(5)=51")
            .due("count(4)=2");
        Run.says("RAIN: WATER of the top LAYER is so much more; without LAYERS it is RUNOFF.").tell("slope 0 0;hour -9 rain 7;")
            .due("hours(2)=2 slope(0,6)=14 slope(0,2)=0");
    }

    private static void joined() {
        String sentence = "If there are 12 LAYERS, LAYERS 0 and 1 are JOINED first";
        String two = "slope 0 0;layer 0 crust 5 1 20 9;layer 0 facets 4 2 30 9;";
        Run.says(sentence).tell(two + "layer 0 crust 1 0 1 0;".repeat(9) + "hour -5;")
            .due("fall(0,1,3)=12 layer(0,0,1)=5 layer(0,11,1)=3 fall(0,3,3)=12 layer(0,0,1)=9")
.due("layer(0,0,2)=3 layer(0,0,3)=50 layer(0,0,4)=-9 layer(0,1,1)=1 layer(0,1,6)=2 layer(0,10,1)=3 layer(0,11,0)=4 count(4)=13").due("slope(0,4)=22");
        Run.says(sentence).tell(two + TEN + "hour -5 snow 6;")
            .due("hours(1)=1 slope(0,2)=12 layer(0,0,1)=9 layer(0,11,6)=12 hours(1)=2 slope(0,2)=12 layer(0,0,1)=10");
        // Neither RAIN nor HOAR that doesn't come joins any.
        Run.says(sentence).tell(two + TEN + "hour 0 hoar;")
            .due("fall(0,2,5)=12 layer(0,0,1)=5 hours(1)=1 slope(0,2)=12 layer(0,0,1)=5 layer(0,1,1)=4 fall(0,3,1)=-1 layer(0,0,1)=5");
        String temp = "TEMP that of both by their ICE (TEMPS times ICE, together, by ICE of both, cut to 0)";
        // -13 / 3, -1 / 3, -2 / 3, -(99 * 300 * 2) / 198, -(300 + 0) / 100.
        int[][] both = {{2, 5, 1, 3, -4}, {1, 1, 2, 0, 0}, {1, 0, 2, 1, 0}, {99, 300, 99, 300, -300}, {1, 300, 99, 0, -3}, {99, 0, 1, 300, -3}};
        for (int[] b : both) {
            Run.says(temp).tell("slope 0 0;layer 0 crust " + b[0] + " 0 99 " + b[1] + ";layer 0 crust " + b[2] + " 0 99 " + b[3] + ";" + TEN)
                .due("fall(0,1,1)=12 layer(0,0,4)=" + b[4] + " layer(0,0,1)=" + (b[0] + b[2]));
        }
        String name = "KIND and NAME of the one with more ICE (of like ones the lower one), AGE the greater.";
        int[][] more = {{5, 5, 2, 0}, {5, 6, 4, 1}, {6, 5, 2, 0}};
        for (int[] m : more) {
            Run.says(name).tell("slope 0 0;layer 0 facets " + m[0] + " 9 99 0;layer 0 hoar " + m[1] + " 0 99 0;" + TEN)
                .due("fall(0,1,1)=12 layer(0,0,0)=" + m[2] + " layer(0,0,6)=" + m[3] + " gone(" + m[3] + ")=-1 gone(" + (1 - m[3]) + ")=0");
        }
        Run.says(name).tell("slope 0 0;layer 0 crust 1 0 1 0;")
            .due("hours(5) fall(0,1,9) hours(2) 10*fall(0,1,1) slope(0,2)=12 fall(0,1,1)=12 layer(0,0,5)=7 layer(0,0,6)=1");
    }

    private static void warmed() {
        String heat = "If AIR is above 0: HEAT is AIR times OPEN";
        // 20 by 20: -9, less -1; AIR 0: a quarter of 10: -8, less -1; OPEN 0: -10, less -1.
        Run.says(heat).tell("slope 0 20;layer 0 crust 20 0 99 10;hour 1;").due("hours(1) layer(0,0,4)=-8");
        Run.says(heat).tell("slope 0 20;layer 0 crust 20 0 99 10;hour 0;").due("hours(1) layer(0,0,4)=-7");
        Run.says(heat).tell("slope 0 0;layer 0 crust 20 0 99 10;hour 100;").due("hours(1) layer(0,0,4)=-9");
        // The least: 1 by 1.
        Run.says(heat).tell("slope 0 1;layer 0 crust 1 0 99 5;hour 1;").due("hours(1) layer(0,0,4)=-4");
        // The most: 2000 by 20 melts 20, all there is.
        Run.says(heat).tell("slope 0 20;layer 0 crust 20 0 99 0;hour 100;").due("hours(1) slope(0,2)=0 slope(0,6)=20");
        Run.says(heat).tell("slope 0 20;layer 0 crust 21 0 99 0;hour 100;").due("hours(1) slope(0,2)=1 slope(0,6)=20 layer(0,0,1)=1");
        String warmer = "by HEAT by its ICE (cut), at most to 0 (HEAT is less by that times its ICE)";
        Run.says(warmer).tell("slope 0 1;layer 0 crust 20 0 99 10;hour 39;").due("hours(1) layer(0,0,4)=-8");
        Run.says(warmer).tell("slope 0 1;layer 0 crust 20 0 99 10;hour 40;").due("hours(1) layer(0,0,4)=-7");
        // 50 of it warm by 5, and 100 melt one, but 98 none.
        Run.says(warmer).tell("slope 0 2;holds crust 99;layer 0 crust 10 0 99 5;hour 75;")
            .due("hours(1) layer(0,0,4)=0 layer(0,0,1)=9 layer(0,0,2)=1");
        Run.says(warmer).tell("slope 0 2;holds crust 99;layer 0 crust 10 0 99 5;hour 74;")
            .due("hours(1) layer(0,0,4)=0 layer(0,0,1)=10 layer(0,0,2)=0");
        // JOINED, 198 of ICE at -2: 300 warm it by 1, and the 102 that are left melt none, for it isn't at 0 (one would freeze again, to CRUST).
        Run.says("if it is at 0 then, ICE melts").tell("slope 0 5;layer 0 crust 9 0 99 0;layer 0 crust 9 0 99 0;" + TEN + "hour 100;")
            .due("dig(0)=11 fall(0,1,9)=12 hours(1) slope(0,2)=12 layer(0,11,1)=4 slope(0,6)=5");
        Run.says("if it is at 0 then, ICE melts").tell("slope 0 3;layer 0 grains 99 0 990 2;layer 0 grains 99 0 990 2;" + TEN + "hour 100;")
            .due("fall(0,1,1)=12 11*dig(0) layer(0,0,1)=198 layer(0,0,4)=-2 hours(1) layer(0,0,1)=198 layer(0,0,2)=0 layer(0,0,4)=-1 layer(0,0,0)=1");
    }

    private static void melted() {
        String melts = "HEAT by 100 (cut), at most all of it: it is WATER (HEAT is less by 100 times that)";
        Run.says(melts).tell("slope 0 2;holds crust 99;layer 0 crust 10 0 99 0;hour 99;").due("hours(1) layer(0,0,1)=9 layer(0,0,2)=1");
        Run.says(melts).tell("slope 0 2;holds crust 99;layer 0 crust 10 0 99 0;hour 100;").due("hours(1) layer(0,0,1)=8 layer(0,0,2)=2");
        Run.says(melts).tell("slope 0 1;holds crust 99;layer 0 crust 10 0 99 0;hour 99;").due("hours(1) layer(0,0,1)=10 layer(0,0,2)=0");
        // 500 melt 2 of the top one, and 300 are left for 3 of the next one.
        Run.says(melts).tell("slope 0 5;holds crust 99;layer 0 crust 50 0 99 0;layer 0 powder 2 0 20 0;hour 100;")
            .due("hours(1) slope(0,2)=1 layer(0,0,1)=47 layer(0,0,2)=5");
        // 1496 melt 14, and the 96 that are left none of the next one.
        Run.says(melts).tell("slope 0 17;holds crust 99;layer 0 crust 50 0 99 0;layer 0 powder 14 0 140 0;hour 88;")
            .due("hours(1) slope(0,2)=1 layer(0,0,1)=50 layer(0,0,2)=14");
        String gone = "Has it no ICE any more, it is gone, its WATER goes to the one below it, or is RUNOFF, and it goes on with the next; else HEAT is 0.";
        Run.says(gone).tell("slope 0 2;holds crust 99;layer 0 crust 50 0 99 0;layer 0 powder 2 3 20 0;hour 100;")
            .due("hours(1) slope(0,2)=1 layer(0,0,1)=50 layer(0,0,2)=5 layer(0,0,3)=99 slope(0,6)=0 gone(1)=0");
        Run.says(gone).tell("slope 0 2;layer 0 powder 2 3 20 0;hour 100;")
            .due("hours(1) slope(0,2)=0 slope(0,6)=5 slope(0,7)=-1 slope(0,8)=9999 hours(1)=2 slope(0,6)=5");
        // Three LAYERS at once, and HEAT that nothing takes any more.
        Run.says("as long as it is above 0 and there are LAYERS, the top one is warmed").tell("slope 0 20;layer 0 crust 2 0 20 9;layer 0 crust 3 0 20 8;layer 0 powder 4 1 20 7;hour 100;")
            .due("hours(1) slope(0,2)=0 slope(0,6)=10 count(9)=0");
        // 450 melt 4 of 5; by the 50 that are left the one below would be warmer, and then 2, not 3, would freeze.
        Run.says(gone).tell("slope 0 5;holds crust 99;layer 0 crust 10 0 99 40;layer 0 crust 5 0 50 0;hour 90;")
            .due("hours(1) layer(0,1,1)=1 layer(0,1,2)=0 layer(0,1,4)=0 layer(0,0,1)=13 layer(0,0,2)=1 layer(0,0,4)=0 slope(0,6)=0");
    }

    private static void cooled() {
        String sentence = "If AIR is 0 or less, TEMP of the top LAYER is more by a quarter of AIR less TEMP (cut to 0).";
        // AIR, COLD, TEMP behind (b) and (c).
        int[][] all = {{-8, 5, -5}, {-9, 5, -6}, {-1, 4, -4}, {0, 3, -3}, {0, 4, -3}, {0, 42, -28}, {-300, 0, -66}, {-3, 0, 0}, {-4, 0, -1}, {-300, 300, -263}};
        for (int[] a : all) {
            Run.says(sentence).tell("slope 0 20;layer 0 crust 9 0 99 " + a[1] + ";hour -" + -a[0] + ";").due("hours(1) layer(0,0,4)=" + a[2]);
        }
        // Only the top one; and without LAYERS nothing.
        Run.says(sentence).tell("slope 0 20;layer 0 crust 9 0 99 7;layer 0 crust 9 0 99 7;hour -11;").due("hours(1) layer(0,0,4)=-7 layer(0,1,4)=-8");
        Run.says(sentence).tell("slope 0 20;hour -300;").due("hours(24)=24 slope(0,2)=0 slope(0,6)=0");
    }

    private static void tempsGoTogether() {
        String sentence = "D is an eighth of the upper one's less the lower one's (cut to 0): the upper one is less by D, the lower one more";
        // COLD of the lower and of the upper one, TEMPS behind (c).
        int[][] all = {{7, 0, -7, 0}, {8, 0, -6, -1}, {0, 7, 0, -7}, {0, 8, -1, -7}, {15, 8, -14, -8}, {16, 8, -13, -9}, {300, 300, -263, -300}, {300, 0, -226, -37}};
        for (int[] a : all) {
            Run.says(sentence).tell(STILL + "layer 0 crust 9 0 99 " + a[0] + ";layer 0 crust 9 0 99 " + a[1] + ";")
                .due("hours(1) layer(0,0,4)=" + a[2] + " layer(0,1,4)=" + a[3]);
        }
        // D above -240 / 8, D below 80 / 8, the ground -80 / 8.
        Run.says("TEMPS go together, all by what they are at the beginning of (c)")
            .tell(STILL + "layer 0 crust 9 0 99 80;layer 0 crust 9 0 99 0;layer 0 crust 9 0 99 240;")
            .due("hours(1) layer(0,2,4)=-210 layer(0,1,4)=-40 layer(0,0,4)=-60");
        int[][] ground = {{7, -7}, {8, -7}, {15, -14}, {16, -14}, {300, -263}, {0, 0}};
        for (int[] g : ground) {
            Run.says("LAYER 0 is, besides, less by an eighth of its own (cut to 0).").tell(STILL + "layer 0 crust 9 0 99 " + g[0] + ";")
                .due("hours(1) layer(0,0,4)=" + g[1]);
        }
        for (int cold = 0; cold <= 300; cold += 25) {
            Run r = Run.says("None is above 0 (it is 0 then).")
                .tell(STILL + "layer 0 crust 9 0 99 0;layer 0 crust 9 0 99 " + cold + ";layer 0 crust 9 0 99 1;layer 0 crust 9 0 99 " + (300 - cold) + ";layer 0 crust 9 0 99 0;");
            for (int h = 1; h <= 40; h++) {
                r.due("hours(1)");
                for (int i = 0; i < 5; i++) {
                    Check.same("none is above 0", Math.max(0, r.x.layer(0, i, 4)), 0);
                }
            }
        }
    }

    private static void freezes() {
        String who = "a LAYER with WATER whose TEMP is below 0 FREEZES";
        Run.says(who).tell(STILL + "layer 0 grains 50 0 99 8;").due("hours(1) layer(0,0,4)=-7 layer(0,0,0)=1 layer(0,0,1)=50");
        Run.says(who).tell(STILL + "layer 0 grains 50 1 99 0;").due("hours(1) layer(0,0,4)=0 layer(0,0,0)=1 layer(0,0,1)=50 layer(0,0,2)=1");
        // At -1 (COLD 1, of which (c) takes 0): ICE 99 freezes nothing, but TEMP is 0, for WATER is left.
        Run.says(who).tell(STILL + "layer 0 grains 99 1 999 1;").due("hours(1) layer(0,0,4)=0 layer(0,0,0)=1 layer(0,0,1)=99 layer(0,0,2)=1");
        String much = "F is as much as ICE times what TEMP is below 0, by 100 (cut), at most its WATER";
        // At -7: 350, 399 and 406 by 100.
        int[][] ice = {{50, 3}, {57, 3}, {58, 4}, {14, 0}, {15, 1}};
        for (int[] i : ice) {
            Run.says(much).tell(STILL + "holds crust 99;holds facets 99;layer 0 crust " + i[0] + " 9 99 8;")
                .due("hours(1) layer(0,0,1)=" + (i[0] + i[1]) + " layer(0,0,2)=" + (9 - i[1]));
        }
        Run.says(much).tell(STILL + "layer 0 crust 50 2 99 8;").due("hours(1) layer(0,0,1)=52 layer(0,0,2)=0 layer(0,0,4)=-3");
        String temp = "its TEMP is 0, if WATER is left, else more by 100 times F by its ICE, as it was (cut), at most 0";
        // At -7 3 of 4 freeze; at -35 1 of 1: 100 / 10, not by 11; at -30 3 of 3: just 0; at -35 2 of 2: 200 / 7.
        int[][] all = {{50, 4, 8, 0}, {50, 3, 8, -1}, {10, 1, 40, -25}, {10, 3, 34, 0}, {7, 2, 40, -7}, {7, 3, 40, 0}};
        for (int[] a : all) {
            Run.says(temp).tell(STILL + "layer 0 crust " + a[0] + " " + a[1] + " 99 " + a[2] + ";").due("hours(1) layer(0,0,4)=" + a[3]);
        }
        // On an upper one as on the lowest one: at -7 2 of 2 freeze; the lowest one is at -1.
        Run.says(temp).tell(STILL + "layer 0 crust 50 0 99 0;layer 0 crust 50 2 99 8;")
            .due("hours(1) layer(0,1,4)=-3 layer(0,0,4)=-1 layer(0,1,1)=52");
        String[] kinds = {"powder", "grains", "facets", "crust", "hoar"};
        for (int k = 0; k < 5; k++) {
            // At -7: ICE 15 freezes one, ICE 14 none; its WATER stays, and so all but CRUST are GRAINS by (f).
            String holds = "holds crust 99;" + (k == 3 ? "" : "holds " + kinds[k] + " 99;");
            Run.says("if F is above 0, KIND is CRUST.").tell(STILL + holds + "layer 0 " + kinds[k] + " 15 5 99 8;")
                .due("hours(1) layer(0,0,0)=3 layer(0,0,1)=16 layer(0,0,2)=4");
            Run.says("if F is above 0, KIND is CRUST.").tell(STILL + holds + "layer 0 " + kinds[k] + " 14 5 99 8;")
                .due("hours(1) layer(0,0,0)=" + (k == 3 ? 3 : 1) + " layer(0,0,2)=5");
        }
    }

    private static void sinks() {
        String sentence = "Then WATER above ICE times HOLDS of its KIND by 100 (cut) SINKS to the next one below, from the ground it is RUNOFF.";
        // 50 * 8 / 100 = 4; 49 * 8 / 100 = 3.
        int[][] all = {{50, 4, 4, 0}, {50, 5, 4, 1}, {50, 3, 3, 0}, {49, 4, 3, 1}, {12, 1, 0, 1}, {13, 1, 1, 0}};
        for (int[] a : all) {
            Run.says(sentence).tell(STILL + "layer 0 grains " + a[0] + " " + a[1] + " 99 0;")
                .due("hours(1) layer(0,0,2)=" + a[2] + " slope(0,6)=" + a[3]);
        }
        Run.says(sentence).tell(STILL + "holds grains 0;layer 0 grains 99 99 198 0;").due("hours(1) layer(0,0,2)=0 slope(0,6)=99");
        // ICE and KIND as they are behind freezing: 99 and 1 of CRUST hold 2.
        Run.says(sentence).tell(STILL + "layer 0 powder 99 9 120 2;").due("hours(1) layer(0,0,1)=100 layer(0,0,2)=2 layer(0,0,0)=3 slope(0,6)=6");
        // From the top to the ground: through all of them in one HOUR, each holding its part.
        Run.says("From the top to the ground").tell(STILL + "layer 0 crust 50 0 99 0;layer 0 grains 50 0 99 0;layer 0 powder 20 9 99 0;")
            .due("hours(1) layer(0,2,2)=1 layer(0,1,2)=4 layer(0,0,2)=1 slope(0,6)=3");
        // What sinks into a cold one freezes there in the same HOUR: at -80 + 10 + 10 all 4 do, and warm it by 400 / 50.
        Run.says("From the top to the ground").tell("slope 50 0;hour 100;layer 0 crust 50 0 99 80;layer 0 grains 50 10 99 0;")
            .due("hours(1) layer(0,1,1)=55 layer(0,1,2)=1 layer(0,0,1)=54 layer(0,0,2)=0 layer(0,0,4)=-52 slope(0,6)=0");
    }

    private static void pressed() {
        Run.says("LOAD of a LAYER: ICE and WATER of all above it, and half of its own (cut).")
            .tell("slope 0 0;layer 0 crust 3 2 9 0;layer 0 crust 1 0 9 0;layer 0 crust 4 3 9 0;")
            .due("layer(0,2,7)=3 layer(0,1,7)=7 layer(0,0,7)=10");
        String sentence = "DEPTH is less by DEPTH times LOAD by STIFF of its KIND (cut), but no less than ICE and WATER together (also if it was).";
        // STIFF, ICE, DEPTH; DEPTH behind an HOUR.
        int[][] all = {{100, 10, 100, 95}, {101, 10, 100, 96}, {9999, 1, 999, 999}, {1, 2, 999, 2}, {2, 2, 50, 25}, {100, 30, 35, 30}, {100, 30, 36, 31}, {1, 1, 50, 50}};
        for (int[] a : all) {
            Run.says(sentence).tell(STILL + "stiff crust " + a[0] + ";layer 0 crust " + a[1] + " 0 " + a[2] + " 0;")
                .due("hours(1) layer(0,0,3)=" + a[3]);
        }
        Run.says(sentence).tell(STILL + "stiff crust 1;holds crust 99;layer 0 crust 99 98 999 0;").due("hours(1) layer(0,0,3)=197");
        // LOAD of all above it: 500 * (40 + 20 + 10) / 1000, 300 * (20 + 20) / 1000, 100 * 10 / 1000.
        Run.says(sentence).tell(STILL + "layer 0 powder 20 0 500 0;layer 0 powder 40 0 300 0;layer 0 powder 20 0 100 0;")
            .due("layer(0,0,7)=70 layer(0,1,7)=40 layer(0,2,7)=10 hours(1) layer(0,0,3)=465 layer(0,1,3)=288 layer(0,2,3)=99");
        // What was DUG away presses no more: 500 * 10 / 1000.
        Run.says(sentence).tell(STILL + "layer 0 powder 20 0 500 0;layer 0 powder 99 0 300 0;layer 0 powder 99 0 300 0;")
            .due("dig(0)=2 dig(0)=1 layer(0,0,7)=10 hours(1) layer(0,0,3)=495");
        // RAIN makes it more than its DEPTH; what runs off doesn't count.
        Run.says(sentence).tell(STILL + "holds grains 99;layer 0 grains 40 0 40 0;").due("fall(0,2,30)=1 layer(0,0,3)=40 hours(1) layer(0,0,3)=70");
        Run.says(sentence).tell(STILL + "holds grains 0;layer 0 grains 40 0 40 0;").due("fall(0,2,30)=1 hours(1) layer(0,0,3)=40 slope(0,6)=30");
        // STIFF of the KIND that it is behind (d), POWDER that froze: 100 * 25 / 100, not by 1; and ahead of (f), GRAINS then: 100 * 5 / 100.
        Run.says(sentence).tell(STILL + "stiff powder 1;stiff crust 100;layer 0 powder 50 1 100 8;").due("hours(1) layer(0,0,0)=3 layer(0,0,3)=75");
        Run.says(sentence).tell(STILL + "stiff powder 100;stiff grains 1;holds powder 99;layer 0 powder 10 1 100 0;")
            .due("hours(1) layer(0,0,0)=1 layer(0,0,3)=95");
    }

    private static void grades() {
        String sentence = "TEMP of the one above it (of the top one: AIR, at most 0) and of the one below it (the ground: 0), the one less the other (not below 0: the difference), times 10 by its DEPTH (cut).";
        Run.says(sentence).tell("slope 0 0;layer 0 crust 1 0 10 7;hour -5;hour 5;hour 0;hour -300;")
            .due("layer(0,0,8)=5 hours(1) layer(0,0,8)=0 hours(1) layer(0,0,8)=0 hours(1) layer(0,0,8)=300");
        Run.says(sentence).tell("slope 0 0;layer 0 crust 1 0 51 0;hour -5;").due("layer(0,0,8)=0");
        Run.says(sentence).tell("slope 0 0;layer 0 crust 1 0 50 0;hour -5;").due("layer(0,0,8)=1");
        Run.says(sentence).tell("slope 0 0;layer 0 crust 1 0 30 100;layer 0 crust 1 0 40 20;layer 0 crust 1 0 70 60;hour 100;")
            .due("layer(0,0,8)=6 layer(0,1,8)=10 layer(0,2,8)=2");
        // The ground is below the lowest of 12 as well.
        Run.says(sentence).tell("slope 0 0;" + "layer 0 crust 1 0 10 6;".repeat(11) + "layer 0 crust 1 0 300 6;")
            .due("layer(0,0,8)=6 layer(0,1,8)=0 layer(0,11,8)=0");
        // By the DEPTH behind (e), as (f) has it: 51 pressed to 50 makes 20 of 19.
        Run.says(sentence).tell("slope 0 0;layer 0 powder 5 0 51 100;hour -100;stiff powder 102;")
            .due("layer(0,0,8)=19 hours(1) layer(0,0,3)=50 layer(0,0,0)=2");
    }

    private static void kinds() {
        String wet = "POWDER, FACETS, HOAR with WATER are GRAINS";
        String steep = "without WATER, if GRADE is 20 or more, POWDER, GRAINS are FACETS";
        String old = "else, if AGE is 24 or more, POWDER, FACETS are GRAINS.";
        String[] kinds = {"powder", "grains", "facets", "crust", "hoar"};
        int[] wetKinds = {1, 1, 1, 3, 1};
        int[] steepKinds = {2, 2, 2, 3, 4};
        int[] oldKinds = {1, 1, 1, 3, 4};
        for (int k = 0; k < 5; k++) {
            Run.says(wet).tell("slope 0 0;holds " + kinds[k] + " 99;layer 0 " + kinds[k] + " 50 1 99 0;")
                .due("hours(1) layer(0,0,2)=1 layer(0,0,0)=" + wetKinds[k]);
            // WATER that ran off in (d) doesn't count.
            Run.says(wet).tell("slope 0 0;holds " + kinds[k] + " 0;layer 0 " + kinds[k] + " 50 1 99 0;")
                .due("hours(1) layer(0,0,2)=0 layer(0,0,0)=" + k);
            // 100 * 10 by 50 and by 51.
            Run.says(steep).tell("slope 0 0;layer 0 " + kinds[k] + " 5 0 50 100;hour -100;")
                .due("layer(0,0,8)=20 hours(1) layer(0,0,0)=" + steepKinds[k]);
            Run.says(steep).tell("slope 0 0;layer 0 " + kinds[k] + " 5 0 51 100;hour -100;").due("layer(0,0,8)=19 hours(1) layer(0,0,0)=" + k);
            // Wet ones at a great GRADE: at -22 ICE 4 freezes none.
            Run.says(steep).tell("slope 0 0;holds " + kinds[k] + " 99;layer 0 " + kinds[k] + " 4 1 10 0;hour -100;")
                .due("hours(1) layer(0,0,2)=1 layer(0,0,0)=" + wetKinds[k]);
            Run.says(old).tell("slope 0 0;layer 0 " + kinds[k] + " 5 0 50 0;")
                .due("hours(24) layer(0,0,5)=24 layer(0,0,0)=" + k + " hours(1) layer(0,0,0)=" + oldKinds[k]);
            // As old as they are, by a great GRADE they are FACETS.
            Run.says(old).tell("slope 0 0;layer 0 " + kinds[k] + " 5 0 50 100;hour -100;").due("hours(24) hours(6) layer(0,0,0)=" + steepKinds[k]);
        }
        // On upper ones as on the lowest one: wet, old, and neither.
        Run.says(wet).tell(STILL + "holds facets 99;layer 0 facets 9 0 99 0;layer 0 facets 9 1 99 0;")
            .due("hours(1) layer(0,0,0)=2 layer(0,0,2)=0 layer(0,1,0)=1 layer(0,1,2)=1");
        Run.says(old).tell(STILL + "layer 0 hoar 9 0 99 0;layer 0 facets 9 0 99 0;")
            .due("hours(24) hours(1) layer(0,1,0)=1 fall(0,1,9)=3 hours(23) layer(0,2,0)=0 hours(1) layer(0,2,0)=0 hours(1) layer(0,2,0)=1");
        // At -70, -80, -80: GRADES 80 * 10 / 40, 10 * 10 / 40, 80 * 10 / 40.
        Run.says("(KINDS of all by TEMPS, WATER as they are.)")
            .tell("slope 0 0;hour 100;stiff powder 9999;layer 0 powder 5 0 40 80;layer 0 powder 5 0 40 80;layer 0 powder 5 0 40 80;")
            .due("hours(1) layer(0,0,0)=2 layer(0,1,0)=0 layer(0,2,0)=2");
    }

    private static void strength() {
        String sentence = "STRONG of its KIND times ICE and WATER together, times 10, by DEPTH (cut)";
        // Half of 12 * 2 * 10 / 13 behind (cut) for the wet one.
        Run.says(sentence)
            .tell("slope 0 0;layer 0 powder 1 0 30 0;layer 0 powder 1 0 31 0;layer 0 hoar 1 0 11 0;layer 0 crust 99 0 99 0;layer 0 powder 2 0 31 0;")
            .due("layer(0,0,9)=1 layer(0,1,9)=0 layer(0,2,9)=0 layer(0,3,9)=400 layer(0,4,9)=1");
        Run.says(sentence).tell("slope 0 0;strong hoar 0;strong crust 99;layer 0 hoar 99 0 99 0;layer 0 crust 99 0 99 0;")
            .due("layer(0,0,9)=0 layer(0,1,9)=990");
        String half = "half of it (cut), if WATER times 100 is 3 times ICE or more.";
        // 12 * 10 by the DEPTH of ICE and WATER, 120, or half of it.
        int[][] all = {{33, 1, 60}, {34, 1, 120}, {66, 2, 60}, {67, 2, 120}, {99, 2, 120}, {99, 3, 60}, {99, 0, 120}, {1, 99, 60}};
        for (int[] a : all) {
            Run.says(half).tell("slope 0 0;layer 0 grains " + a[0] + " " + a[1] + " " + (a[0] + a[1]) + " 0;").due("layer(0,0,9)=" + a[2]);
        }
        // On upper ones as on the lowest one.
        Run.says(half).tell("slope 0 0;layer 0 grains 50 1 51 0;layer 0 grains 33 1 34 0;layer 0 grains 34 1 35 0;")
            .due("layer(0,0,9)=120 layer(0,1,9)=60 layer(0,2,9)=120");
        // One freezes: ICE 100, WATER 3, just as much. 5 by 2 is cut.
        Run.says(half).tell("slope 30 0;hour 100;holds crust 3;layer 0 crust 99 4 103 2;")
            .due("hours(1) layer(0,0,1)=100 layer(0,0,2)=3 layer(0,0,9)=200");
        Run.says(half).tell("slope 30 0;strong crust 5;layer 0 crust 5 5 100 0;").due("layer(0,0,9)=2");
    }

    private static void ratio() {
        Run.says("BURDEN: ICE and WATER of all above it, times STEEP, by 100 (cut).")
            .tell("slope 33 0;layer 0 crust 9 0 9 0;layer 0 crust 2 1 9 0;layer 0 crust 5 1 9 0;")
            .due("layer(0,2,10)=0 layer(0,1,10)=1 layer(0,0,10)=2");
        Run.says("BURDEN: ICE and WATER of all above it, times STEEP, by 100 (cut).")
            .tell("slope 0 0;layer 0 crust 9 0 9 0;layer 0 crust 99 99 198 0;").due("layer(0,0,10)=0 layer(0,0,11)=9999");
        String sentence = "RATIO: 100 times STRENGTH by BURDEN (cut; at most 9999; 9999, if BURDEN is 0).";
        // BURDEN 1 by 2 at STEEP 50; STRENGTH is that of STRONG.
        int[][] all = {{99, 2, 9900}, {1, 2, 100}, {0, 2, 0}, {0, 1, 9999}, {0, 0, 9999}, {2, 6, 66}, {1, 4, 50}, {50, 98, 102}};
        for (int[] a : all) {
            Run.says(sentence)
                .tell("slope 50 0;strong crust " + a[0] + ";layer 0 crust 10 0 100 0;" + (a[1] > 0 ? "layer 0 hoar " + a[1] + " 0 999 0;" : ""))
                .due("layer(0,0,11)=" + a[2]);
        }
        // STRENGTH 100 by BURDEN 1 would be 10000; 400 by 4 too; 400 by 5 is 8000.
        Run.says(sentence).tell("slope 50 0;strong crust 10;layer 0 crust 10 0 10 0;layer 0 hoar 2 0 999 0;")
            .due("layer(0,0,9)=100 layer(0,0,11)=9999");
        Run.says(sentence).tell("slope 50 0;layer 0 crust 10 0 10 0;layer 0 hoar 8 0 999 0;").due("layer(0,0,11)=9999");
        Run.says(sentence).tell("slope 50 0;layer 0 crust 10 0 10 0;layer 0 hoar 10 0 999 0;").due("layer(0,0,11)=8000");
        String weakest = "WEAKEST of a SLOPE: the LAYER of least RATIO (of like ones the lowest); UNSTABLE, if that is below 100.";
        // 15 and 14 above them at STEEP 10: BURDEN 1 each.
        Run.says(weakest).tell("slope 10 0;layer 0 crust 9 0 9 0;layer 0 hoar 1 0 10 0;layer 0 hoar 1 0 10 0;layer 0 crust 14 0 99 0;")
            .due("layer(0,1,11)=100 layer(0,2,11)=100 slope(0,7)=1 slope(0,8)=100 slope(0,9)=0");
        // 2 by 2 and 1 by 1, of 20 and 19 above them; one more or less would make another one the least.
        Run.says(weakest).tell("slope 10 0;layer 0 crust 9 0 9 0;layer 0 hoar 2 0 20 0;layer 0 hoar 1 0 10 0;layer 0 crust 19 0 99 0;")
            .due("layer(0,1,10)=2 layer(0,2,10)=1 layer(0,1,11)=50 slope(0,7)=1");
        Run.says(weakest).tell("slope 10 0;layer 0 crust 9 0 9 0;layer 0 hoar 2 0 10 0;layer 0 hoar 1 0 10 0;layer 0 crust 19 0 99 0;")
            .due("layer(0,1,11)=100 layer(0,2,11)=100 slope(0,7)=1");
        Run.says(weakest).tell("slope 0 0;layer 0 crust 9 0 9 0;layer 0 hoar 1 0 10 0;").due("slope(0,7)=0 slope(0,8)=9999 slope(0,9)=0");
        // STRENGTH 99 by BURDEN 99 and by BURDEN 100.
        Run.says(weakest).tell("slope 90 0;strong hoar 99;layer 0 hoar 10 0 100 0;layer 0 crust 99 0 99 0;layer 0 crust 11 0 99 0;")
            .due("layer(0,0,10)=99 slope(0,8)=100 slope(0,9)=0 slide(0)=-1");
        Run.says(weakest).tell("slope 90 0;strong hoar 99;layer 0 hoar 10 0 100 0;layer 0 crust 99 0 99 0;layer 0 crust 13 0 99 0;")
            .due("layer(0,0,10)=100 slope(0,8)=99 slope(0,9)=1 slide(0)=2");
        Run.says(weakest).tell("slope 50 0;layer 0 crust 9 0 9 0;layer 0 hoar 1 0 10 0;layer 0 crust 9 0 9 0;").due("slope(0,7)=1 slope(0,8)=25");
        Run.says(weakest).tell("slope 50 0;").due("slope(0,7)=-1 slope(0,8)=9999 slope(0,9)=0");
    }

    private static void taps() {
        // At STEEP 50 BURDEN is half of EXTRA: 0 5 6 15 17 35 by 0 10 11 20 21 30; STRENGTH is that of STRONG.
        int[][] all = {{0, 2}, {1, 4}, {4, 10}, {5, 11}, {6, 12}, {14, 20}, {15, 21}, {16, 21}, {17, 22}, {32, 29}, {33, 30}, {34, 30}, {35, -1}};
        for (int[] a : all) {
            Run.says("EXTRA is 1 for each of the first ten, 2 for each of the next ten, 4 for each of the others: BURDEN by TAPS: of all above it and EXTRA, times STEEP, by 100.")
                .tell("slope 50 0;strong crust " + a[0] + ";layer 0 crust 10 0 100 0;")
                .due("stands(0,0)=" + a[1] + " stands(0,1)=" + (a[1] < 0 ? -1 : 0));
        }
        // What lies above counts together with EXTRA: (3 + 1) / 2, not 3 / 2 and 1 / 2.
        Run.says("BURDEN by TAPS: of all above it and EXTRA, times STEEP, by 100.").tell("slope 50 0;layer 0 hoar 1 0 10 0;layer 0 crust 3 0 9 0;")
            .due("stands(0,0)=1 stands(0,1)=0");
    }

    /** All HOURS of a wild year: none of these limits is passed. */
    private static void whatALayerHas() {
        Run r = Run.says("ICE (1 on), WATER (0 on), DEPTH, TEMP (0 or less, tenths of a degree), AGE (HOURS)")
            .tell("slope 40 20;slope 60 3;slope 0 0;stiff powder 50;stiff grains 1;holds crust 60;layer 0 powder 1 9 10 300;layer 1 hoar 99 99 198 1;"
                + "hour -300 snow 50;hour -20 rain 50;hour 30 rain 7;hour -1 hoar;hour 100;hour 70 snow 2;hour -200;hour -50 hoar;hour 0 rain 1;hour 12;hour -9 snow 1;");
        for (int h = 1; h <= 400; h++) {
            r.due("hours(1)");
            for (int slope = 0; slope < 3; slope++) {
                int layers = r.x.slope(slope, 2);
                Check.same("at most 12", Math.max(layers, 12), 12);
                for (int i = 0; i < layers; i++) {
                    int ice = r.x.layer(slope, i, 1);
                    int water = r.x.layer(slope, i, 2);
                    Check.same("ICE", Math.min(ice, 1), 1);
                    Check.same("WATER", Math.min(water, 0), 0);
                    Check.same("DEPTH", Math.min(r.x.layer(slope, i, 3) - ice - water, 0), 0);
                    Check.same("TEMP", Math.max(r.x.layer(slope, i, 4), 0), 0);
                    Check.same("TEMP with WATER", water == 0 ? 0 : r.x.layer(slope, i, 4), 0);
                    Check.same("AGE", Math.max(r.x.layer(slope, i, 5), h), h);
                }
            }
        }
    }

    private static void acts() {
        String kept = "ACTS (at most 40 are kept, the latest ones)";
        Run.says(kept).tell("slope 0 0;")
            .due("40*hours(1) count(12)=40 hours(1)=41 count(12)=40 40*undo() count(2)=1 undo()=-1 count(12)=0 count(2)=1");
        Run.says(kept).tell("slope 0 0;").due("39*hours(1) count(12)=39 pit(0)=1 count(12)=40 undo()=39 count(11)=0 39*undo() count(2)=0 undo()=-1");
        // Each of them as it was, one after the other.
        Run r = Run.says(kept).tell("slope 0 0;").due("45*hours(1) count(12)=40");
        for (int left = 39; left >= 0; left--) {
            r.due("undo()=" + left + " count(2)=" + (left + 5));
        }
        // A PIT whose ACT isn't kept any more can't be UNDONE; one that is refused pushes none out.
        Run.says(kept).tell("slope 0 0;").due("pit(0)=1 40*fall(0,1,1) 40*undo() undo()=-1 count(11)=1 slope(0,2)=0 count(4)=0");
        Run.says(kept).tell("slope 0 0;")
            .due("40*hours(1) hours(0)=-1 dig(0)=-1 slide(0)=-1 pit(1)=-1 fall(0,0,0)=-1 count(12)=40 count(16)=5 40*undo() count(2)=0 count(16)=5");
        Run.says("HOURS go by (1 to 24)").tell("slope 0 0;").due("hours(1)=1 hours(24)=25 hours(25)=-1 hours(0)=-1 count(12)=2 undo()=1 count(2)=1");
        // The FORECAST's second HOUR comes: AIR -20.
        Run.says("something FALLS by hand on a SLOPE, as in (a) (AIR being that of the HOUR that comes)")
            .tell("slope 0 0;slope 0 0;hour 100;hour -20;")
            .due("fall(1,3,1)=-1 hours(1)=1 fall(1,3,1)=1 layer(1,0,4)=-20 layer(1,0,5)=0 slope(0,2)=0 fall(1,1,2)=2 layer(1,1,4)=-20 count(2)=1");
        Run.says("the top LAYER is DUG away (its ICE, WATER are TAKEN)").tell("slope 0 0;layer 0 crust 3 4 9 0;layer 0 crust 5 6 99 0;")
            .due("dig(0)=1 count(6)=11 dig(0)=0 count(6)=18 dig(0)=-1 count(6)=18 count(9)=0 count(7)=0");
        Run.says("a SLIDE on a SLOPE that is UNSTABLE: all LAYERS above the WEAKEST are gone (their ICE, WATER have SLID)")
            .tell("slope 50 0;layer 0 crust 9 0 9 0;layer 0 hoar 1 0 10 0;layer 0 crust 4 1 9 0;layer 0 crust 5 2 9 0;")
            .due("slide(0)=2 count(7)=12 count(8)=1 slope(0,2)=2 layer(0,1,0)=4 count(6)=0 slide(0)=-1 count(8)=1");
        // The one that is named is that of least RATIO, though a lower one is below 100 too: 1 by 5, 1 by 4 and 0 by 3.
        Run.says("a SLIDE on a SLOPE that is UNSTABLE: all LAYERS above the WEAKEST are gone (their ICE, WATER have SLID)")
            .tell("slope 50 0;strong facets 0;layer 0 hoar 1 0 10 0;layer 0 facets 2 0 9 0;layer 0 crust 6 0 9 0;layer 0 crust 2 0 9 0;")
            .due("slope(0,7)=1 layer(0,0,11)=20 slide(0)=2 count(7)=8 slope(0,9)=0");
        Run.says("a PIT is kept (at most 6): LAYERS of a SLOPE as they are.").tell("slope 0 0;layer 0 crust 9 0 99 0;")
            .due("pit(0)=1 dig(0)=0 pit(0)=2 pitOf(0,1)=1 pitOf(1,1)=0 4*pit(0) count(11)=6 pit(0)=-1 count(11)=6 pitOf(6,0)=NSE");
        Run.says("They are UNDONE, the last one first.").tell("slope 50 0;layer 0 hoar 1 0 10 0;layer 0 crust 8 0 9 0;hour -9 snow 5;")
.due("slide(0)=1 hours(3)=3 dig(0)=4 fall(0,1,7)=4 pit(0)=1 count(4)=6 undo()=4 count(11)=0 slope(0,2)=4 undo()=3 slope(0,2)=3")
            .due("count(4)=5 undo()=2 slope(0,2)=4 count(6)=0")
            .due("undo()=1 count(2)=0 slope(0,2)=1 count(4)=2 undo()=0 slope(0,2)=2 count(7)=0 count(8)=0 layer(0,1,1)=8 undo()=-1");
    }
}
