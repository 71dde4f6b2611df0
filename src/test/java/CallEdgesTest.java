/** Terms 3 and promises 5 to 34: each sentence that names an edge of a call, what it refuses, throws, and answers where there is none. */
public final class CallEdgesTest {
    /** HOAR of STRENGTH 1 under a BURDEN of 2: RATIO 50. */
    private static final String WEAK = "slope 50 0;layer 0 hoar 1 0 10 0;layer 0 powder 4 0 40 0;";

    public static void main(String[] args) throws Exception {
        counts();
        forecastSlopeLayer();
        told();
        hours();
        fall();
        digSlidePit();
        undo();
        then();
        once();
        gone();
        stands();
        toLoad();
        steepest();
        toWarm();
        matters();
        pits();
        nearest();
        note();
        falls();
        look();
        odds();
        years();
        draws();
        image();
        questionsChangeNothing();
        Run.finish();
    }

    /** Numbers just outside 0 to most, and the farthest ones. */
    private static String outside(String call, int most, String answer) {
        StringBuilder calls = new StringBuilder();
        for (String n : new String[] {"-1", "MIN", "MAX", Integer.toString(most + 1)}) {
            calls.append(call.replace("#", n)).append('=').append(answer).append(' ');
        }
        return calls.toString();
    }

    private static void counts() {
        Run.says("15 to 17 STATUS 0 to 2. NoSuchElementException: another what.").tell("slope 0 0;").tell("?", 1, 0).tell("?", 1, 0).tell("?", 1, 0)
            .due("hours(0) dig(0) note(9,0,0) count(15)=3 count(16)=2 count(17)=1 " + outside("count(#)", 17, "NSE"));
        Run.says("10 WORST (NONE: no SLOPES)").due("count(10)=-1").tell("hour 1;").due("count(10)=-1").tell("slope 0 0;").due("count(10)=0");
        String worst = "WORST: the SLOPE whose WEAKEST has the least RATIO now (of like ones the first).";
        // 9999 of bare SLOPES is like any other 9999.
        Run.says(worst).tell("slope 50 0;slope 50 0;layer 1 crust 9 0 9 0;")
            .due("count(10)=0 fall(1,1,50)=2 slope(1,8)=1600 count(10)=1 undo() count(10)=0");
        Run.says(worst)
            .tell("slope 50 0;slope 50 0;slope 50 0;layer 1 hoar 1 0 10 0;layer 1 crust 4 0 9 0;layer 2 hoar 1 0 10 0;layer 2 crust 5 0 9 0;")
            .due("slope(1,8)=50 slope(2,8)=50 count(10)=1 fall(2,1,1)=3 slope(2,8)=33 count(10)=2");
        Run.says("5 RUNOFF of all, 6 TAKEN").tell("slope 0 0;slope 0 0;slope 0 0;slope 0 0;layer 1 crust 9 0 9 0;")
            .due("fall(0,2,1) fall(2,2,2) fall(3,2,4) count(5)=7 dig(1) fall(1,2,8) count(5)=15 count(6)=9");
        Run.says("8 SLIDES ever, 9 ICE and WATER of all SLOPES").tell(WEAK + "slope 0 0;layer 1 crust 3 4 9 0;")
            .due("count(9)=12 slide(0)=1 count(8)=1 count(9)=8 fall(0,1,8)=2 slide(0)=1 count(8)=2");
        Run.says("14 bytes of the tape")
            .due("count(14)=0 feed(0,0,0,0,0)=20 count(14)=20 image() feed(0,0,0,0,0)=40 restore()=1 count(14)=40 snow(1)=1 count(14)=0");
    }

    private static void forecastSlopeLayer() {
        Run.says("2 MUCH (0 without). NoSuchElementException: no such HOUR, another what.").due("forecast(0,0)=NSE")
            .tell("hour 1 hoar;hour 2 snow 9;")
            .due("forecast(0,2)=0 forecast(1,2)=9 " + outside("forecast(#,0)", 1, "NSE") + outside("forecast(0,#)", 2, "NSE"));
        Run.says("7 the WEAKEST (NONE: no LAYERS), 8 its RATIO (9999: no LAYERS), 9 whether UNSTABLE (1).").tell("slope 90 0;")
            .due("slope(0,2)=0 slope(0,3)=0 slope(0,7)=-1 slope(0,8)=9999 slope(0,9)=0")
            .tell(WEAK).due("slope(0,7)=0 slope(0,8)=50 slope(0,9)=1");
        Run.says("NoSuchElementException: no such SLOPE (as everywhere), another what.").tell("slope 1 1;slope 1 1;")
            .due(outside("slope(#,0)", 1, "NSE") + outside("slope(0,#)", 9, "NSE"));
        for (String call : new String[] {"layer(#,0,0)", "told(#,0,-1)", "then(#,1,0)", "once(#,0)", "stands(#,0)", "toLoad(#)", "steepest(#)", "toWarm(#,1)", "matters(#,1,0)", "odds(#,1,1)"}) {
            Run.says("no such SLOPE (as everywhere)").tell("slope 1 1;layer 0 crust 1 0 1 0;slope 1 1;layer 1 crust 1 0 1 0;")
                .due(outside(call, 1, "NSE") + call.replace("#", "1"));
            Run.says("no such SLOPE (as everywhere)").due(call.replace("#", "0") + "=NSE");
        }
        Run.says("NoSuchElementException: also no such LAYER (as everywhere), another what.")
            .tell("slope 1 1;slope 1 1;layer 0 crust 1 0 1 0;layer 0 crust 1 0 1 0;")
            .due(outside("layer(0,#,0)", 1, "NSE") + outside("layer(0,0,#)", 11, "NSE") + outside("told(0,#,-1)", 1, "NSE") + "layer(1,0,0)=NSE told(1,0,-1)=NSE layer(0,1,11)=9999 dig(0)=1 layer(0,1,0)=NSE");
        Run.says("8 GRADE (AIR that of the HOUR that comes)").tell("slope 0 0;layer 0 crust 9 0 10 0;hour 5;hour -7;")
            .due("layer(0,0,8)=0 hours(1)=1 layer(0,0,8)=7 hours(1)=2 layer(0,0,8)=0");
    }

    private static void told() {
        String sentence = "its NAME, KIND, then 'of', ICE, and 'wet' and WATER, if it has any, 'in', DEPTH, 'at', TEMP (with - ahead, if it is below 0), with a blank (32) between each two of these, and a ; right behind.";
        Run.says(sentence)
            .tell("slope 1 1;layer 0 powder 1 0 1 0;layer 0 grains 99 99 999 300;layer 0 facets 2 1 3 1;layer 0 crust 10 0 100 10;layer 0 hoar 9 0 9 0;")
            .told(0, 0, "0 powder of 1 in 1 at 0;").told(0, 1, "1 grains of 99 wet 99 in 999 at -300;").told(0, 2, "2 facets of 2 wet 1 in 3 at -1;")
            .told(0, 3, "3 crust of 10 in 100 at -10;").told(0, 4, "4 hoar of 9 in 9 at 0;");
        Run.says(sentence).tell("slope 1 1;").due("120*fall(0,1,50)").told(0, 11, "119 powder of 50 in 500 at 0;").due("20*fall(0,2,50)")
            .told(0, 11, "119 powder of 50 wet 1000 in 500 at 0;");
        Run.says("TOLD: how many signs (i NONE), the i-th of them. NoSuchElementException: also there is none.")
            .tell("slope 1 1;layer 0 hoar 9 0 9 0;")
.due("told(0,0,-1)=22 told(0,0,0)=48 told(0,0,1)=32 told(0,0,21)=59 told(0,0,22)=NSE told(0,0,-2)=NSE told(0,0,MAX)=NSE").due("told(0,0,MIN)=NSE");
    }

    private static void hours() {
        String sentence = "HOURS go by: TIME. NONE (STATUS 1): not 1 to 24, TIME would be above 2000.";
        Run.says(sentence)
            .due("hours(0)=-1 hours(-1)=-1 hours(25)=-1 hours(MIN)=-1 hours(MAX)=-1 count(16)=5 count(12)=0 count(2)=0 hours(1)=1 hours(24)=25")
            .due("count(12)=2 count(16)=5");
        Run.says(sentence).tell("slope 0 0;")
            .due("83*hours(24) count(2)=1992 hours(9)=-1 hours(24)=-1 count(2)=1992 count(16)=2 hours(8)=2000 hours(1)=-1 count(2)=2000")
            .due("count(16)=3 undo()=39 count(2)=1992 hours(7)=1999 hours(1)=2000");
        // What is asked of HOURS to come isn't held by that.
        Run.says("THEN, behind so many HOURS (0 to 72)").tell("slope 0 0;hour 0 snow 1;")
            .due("83*hours(24) hours(8)=2000 then(0,72,1)=2072 once(0,1)=-1 odds(0,6,0)=0 years(13,1,0)=0");
    }

    private static void fall() {
        Run.says("Something FALLS by hand (1 SNOW, 2 RAIN, 3 HOAR, whose much isn't looked at): how many LAYERS the SLOPE has.")
            .tell("slope 0 0;hour -1;")
.due("fall(0,2,1)=0 fall(0,1,1)=1 fall(0,2,50)=1 fall(0,3,0)=2 fall(0,3,51)=3 fall(0,3,MIN)=4 fall(0,3,MAX)=5 layer(0,4,1)=1")
            .due("fall(0,1,50)=6 count(12)=8 6*fall(0,1,1) slope(0,2)=12 fall(0,1,1)=12");
        String refused = "NONE (STATUS 1): no such SLOPE, FALL, much not 1 to 50, HOAR that doesn't come.";
        Run.says(refused).tell("slope 0 0;slope 0 0;")
            .due(outside("fall(#,1,1)", 1, "-1") + outside("fall(0,#,1)", 3, "-1") + "fall(0,0,1)=-1 fall(0,1,0)=-1 fall(0,1,51)=-1 fall(0,2,0)=-1 fall(0,2,51)=-1 fall(0,1,-1)=-1 fall(0,2,MAX)=-1 fall(0,1,MIN)=-1")
            .due("fall(0,3,1)=-1 count(16)=17 count(12)=0 count(4)=0 count(5)=0 slope(0,2)=0");
        Run.says(refused).tell("slope 0 0;hour -1;hour 0;hour 1;")
            .due("fall(0,3,1)=1 hours(1) fall(0,3,1)=-1 hours(1) fall(0,3,1)=-1 hours(1) fall(0,3,1)=2 count(16)=2");
    }

    private static void digSlidePit() {
        Run.says("The top LAYER is DUG away: its NAME. NONE (STATUS 1): no such SLOPE, no LAYERS.").due("dig(0)=-1 count(16)=1")
            .tell("slope 0 0;slope 0 0;layer 1 crust 1 0 1 0;layer 1 hoar 1 0 1 0;")
            .due("dig(0)=-1 " + outside("dig(#)", 1, "-1") + "count(16)=6 count(12)=0 dig(1)=1 dig(1)=0 dig(1)=-1 count(16)=7 count(12)=2 count(6)=2");
        Run.says("A SLIDE: how many LAYERS are gone. NONE (STATUS 1): no such SLOPE, it isn't UNSTABLE.")
            .tell(WEAK + "slope 50 0;layer 1 hoar 1 0 10 0;layer 1 crust 3 0 9 0;")
            .due("slope(1,8)=100 slide(1)=-1 " + outside("slide(#)", 1, "-1") + "count(16)=5 count(8)=0 count(12)=0 slide(0)=1 slide(0)=-1 count(8)=1 count(12)=1 count(16)=6 fall(1,1,1)=3 slide(1)=2");
        Run.says("A SLIDE: how many LAYERS are gone.").tell("slope 90 0;layer 0 hoar 1 0 10 0;" + "layer 0 crust 9 0 9 0;".repeat(11))
            .due("slide(0)=11 slope(0,2)=1 count(7)=99");
        Run.says("A PIT is kept: how many there are. NONE (STATUS 1): no such SLOPE, there are 6.").tell("slope 0 0;slope 0 0;")
            .due(outside("pit(#)", 1, "-1") + "count(16)=4")
.due("pit(0)=1 pit(1)=2 pit(1)=3 pit(1)=4 pit(1)=5 pit(1)=6 pit(1)=-1 pit(0)=-1 count(16)=6 count(11)=6 count(12)=6 undo()=5 pit(0)=6")
            .due("pitOf(5,0)=0");
    }

    private static void undo() {
        Run.says("The last ACT is UNDONE: how many are left. NONE: there is none.")
            .due("undo()=-1 count(16)=0 hours(1)=1 undo()=0 count(2)=0 undo()=-1 count(16)=0").tell("slope 0 0;").due("undo()=-1");
        // RUNOFF, TAKEN, NAMES, AGE, TEMP: all is as it was; what is NOTED and STATUS aren't of an ACT.
        Run.says("The last ACT is UNDONE: how many are left. NONE: there is none.")
            .tell("slope 0 9;layer 0 powder 5 1 50 80;hour 60 rain 9;hour -30 snow 2;").due("hours(5)=5 note(0,0,1)=1 hours(0)=-1 undo()=0")
            .told(0, 0, "0 powder of 5 wet 1 in 50 at -80;")
            .due("slope(0,2)=1 slope(0,6)=0 count(4)=1 layer(0,0,5)=0 count(2)=0 count(13)=1 count(16)=1");
    }

    private static void then() {
        Run.says("IllegalArgumentException (behind that): not 0 to 72.").tell("slope 0 0;hour 0 snow 1;")
            .due("then(0,0,1)=0 then(0,72,1)=72 " + outside("then(0,#,0)", 72, "IAE")
            + "then(1,-1,0)=NSE then(0,-1,7)=NSE then(0,73,-1)=NSE then(1,73,7)=NSE " + outside("then(0,0,#)", 6, "NSE"));
        Run.says("RATIO of the WEAKEST (4; 9999 without), its NAME (5; NONE), RUNOFF (6).").tell("slope 90 10;layer 0 crust 1 2 9 0;hour 10 rain 3;")
.due("then(0,0,4)=9999 then(0,0,5)=0 then(0,0,6)=0 then(0,1,4)=9999 then(0,1,5)=-1 then(0,1,6)=6 then(0,2,6)=9 then(0,1,3)=0")
            .due("then(0,1,0)=0 hours(1) then(0,0,6)=6");
    }

    /** 80 of STRENGTH below ICE that is wetted by one an HOUR: at STEEP 50 81 of BURDEN are reached when 162 lie above. */
    private static String wetted(int ice) {
        return "slope 50 0;strong crust 8;holds crust 99;layer 0 crust 10 0 10 0;layer 0 crust " + ice + " 0 999 0;hour 0 rain 1;";
    }

    private static void once() {
        String sentence = "ONCE: behind how many HOURS (0 to 72) a SLOPE is first UNSTABLE; first has no LAYERS; a NAME is first not there any more (in no SLOPE); none.";
        Run.says(sentence).tell(wetted(90)).due("once(0,0)=72 then(0,71,4)=100 then(0,72,4)=98 once(0,1)=-1 hours(1) once(0,0)=71");
        Run.says(sentence).tell(wetted(89)).due("once(0,0)=-1 then(0,72,4)=100 hours(1) once(0,0)=72");
        Run.says(sentence).tell(WEAK).due("once(0,0)=0");
        // One an HOUR melts.
        Run.says(sentence).tell("slope 0 10;layer 0 crust 72 0 99 0;hour 10;").due("once(0,1)=72 gone(0)=72 once(0,0)=-1");
        Run.says(sentence).tell("slope 0 10;layer 0 crust 73 0 99 0;hour 10;").due("once(0,1)=-1 gone(0)=-1 hours(1) once(0,1)=72 gone(0)=72");
        Run.says(sentence).tell("slope 0 10;").due("once(0,1)=0 once(0,0)=-1");
        Run.says("ONCE: UNSTABLE (what 0), no LAYERS (1); NONE: none. NoSuchElementException: also another what.").tell("slope 0 0;")
            .due(outside("once(0,#)", 1, "NSE"));
    }

    private static void gone() {
        Run.says("ONCE: a NAME isn't there; NONE: none. NoSuchElementException: that NAME isn't given.").due("gone(0)=NSE")
            .tell("slope 0 0;layer 0 crust 9 0 9 0;layer 0 crust 9 0 9 0;")
            .due(outside("gone(#)", 1, "NSE") + "gone(0)=-1 gone(1)=-1 dig(0)=1 gone(1)=0 fall(0,1,1)=2 gone(2)=-1 undo() gone(2)=NSE");
        // Which NAMES come in HOURS to come counts for nothing; of like ones that are JOINED the lower one's NAME stays.
        Run.says("that NAME isn't given.").tell("slope 0 0;hour 0 snow 1;").due("gone(0)=NSE hours(1) gone(0)=-1 gone(1)=NSE");
        // On the second SLOPE it is there, and JOINED away when the 13th comes.
        Run.says("a NAME is first not there any more (in no SLOPE)")
            .tell("slope 0 0;slope 0 0;layer 1 crust 1 0 9 0;layer 1 crust 2 0 9 0;hour 0 snow 1;").due("gone(0)=11 gone(1)=-1");
    }

    private static void stands() {
        String sentence = "STANDS: how many TAPS (0 to 30) a SLOPE stands: the least by which a LAYER has a RATIO below 100: how many; the lowest such LAYER; none.";
        Run.says(sentence).tell(WEAK).due("stands(0,0)=0 stands(0,1)=0");
        Run.says(sentence).tell("slope 90 0;layer 0 hoar 1 0 10 0;layer 0 crust 99 0 99 0;").due("slope(0,8)=1 stands(0,0)=0 stands(0,1)=0");
        Run.says(sentence).tell("slope 50 0;").due("stands(0,0)=-1 stands(0,1)=-1");
        Run.says(sentence).tell("slope 0 0;strong hoar 0;layer 0 hoar 9 0 9 0;layer 0 hoar 9 0 9 0;").due("stands(0,0)=-1 stands(0,1)=-1");
        // The top one has a BURDEN of TAPS too; of both at once the lowest, though the upper one's RATIO is less: 1 by 2 and 0 by 1.
        Run.says(sentence).tell("slope 50 0;strong hoar 0;layer 0 crust 9 0 9 0;layer 0 hoar 1 0 10 0;").due("stands(0,0)=2 stands(0,1)=1");
        Run.says(sentence).tell("slope 50 0;strong hoar 0;strong powder 1;layer 0 powder 10 0 100 0;layer 0 hoar 2 0 10 0;")
            .due("stands(0,0)=2 stands(0,1)=0");
        // STEEP 90: 63 of 70 by 30 TAPS, 59 of 66 by 29.
        Run.says(sentence).tell("slope 90 0;strong crust 62;layer 0 crust 10 0 100 0;").due("stands(0,0)=30");
        Run.says(sentence).tell("slope 90 0;strong crust 63;layer 0 crust 10 0 100 0;")
            .due("stands(0,0)=-1 stands(0,1)=-1 " + outside("stands(0,#)", 1, "NSE"));
    }

    private static void toLoad() {
        String sentence = "TO LOAD: the least SNOW (1 to 99), as a burden on all LAYERS there are now, by which a SLOPE would be UNSTABLE (BURDEN as if so much more lay above); none.";
        // 98 and 99 at STEEP 50: 49; at STEEP 90: 88 and 89.
        int[][] all = {{50, 48, 98}, {50, 49, -1}, {90, 87, 98}, {90, 88, 99}, {90, 89, -1}, {0, 0, -1}, {1, 0, -1}, {50, 0, 2}};
        for (int[] a : all) {
            Run.says(sentence).tell("slope " + a[0] + " 0;strong crust " + a[1] + ";layer 0 crust 10 0 100 0;").due("toLoad(0)=" + a[2]);
        }
        Run.says(sentence).tell(WEAK).due("toLoad(0)=1");
        Run.says(sentence).tell("slope 90 0;").due("toLoad(0)=-1");
        // (3 + 1) / 2 above the lowest one.
        Run.says(sentence).tell("slope 50 0;layer 0 hoar 1 0 10 0;layer 0 crust 3 0 9 0;").due("slope(0,9)=0 toLoad(0)=1");
    }

    private static void steepest() {
        String sentence = "STEEPEST: the greatest STEEP (0 to 90) by which a SLOPE, as it is, wouldn't be UNSTABLE.";
        Run.says(sentence).tell("slope 50 0;").due("steepest(0)=90");
        // STRENGTH 0 under 100, 99, 2 and 1: BURDEN is 1 from 1, 2, 50 on, or never.
        String none = "slope 50 0;strong hoar 0;layer 0 hoar 1 0 10 0;layer 0 crust ";
        Run.says(sentence).tell(none + "99 1 100 0;").due("steepest(0)=0");
        Run.says(sentence).tell(none + "99 0 100 0;").due("steepest(0)=1");
        Run.says(sentence).tell(none + "2 0 100 0;").due("steepest(0)=49");
        Run.says(sentence).tell(none + "1 0 100 0;").due("steepest(0)=90");
        // What its own STEEP is counts for nothing.
        Run.says(sentence).tell(WEAK.replace("slope 50", "slope 0")).due("slope(0,9)=0 steepest(0)=49");
        Run.says(sentence).tell(WEAK.replace("slope 50", "slope 90")).due("slope(0,9)=1 steepest(0)=49");
        // 89 holds and 90 doesn't: STRENGTH 8 under 10.
        Run.says(sentence).tell("slope 0 0;strong hoar 8;layer 0 hoar 1 0 10 0;layer 0 crust 10 0 10 0;").due("steepest(0)=89");
    }

    /** 120 of STRENGTH under 99: where one of these melts and wets the lower one, it is half of that by a BURDEN of 88. */
    private static String warmed(int air) {
        return "slope 90 20;holds crust 0;holds grains 99;layer 0 grains 10 0 10 0;layer 0 crust 99 0 99 0;hour " + (air < 0 ? "-" + -air : "" + air) + ";";
    }

    private static void toWarm() {
        String sentence = "TO WARM: by how much more (1 to 50) AIR in all HOURS (at most 100) a SLOPE would first be UNSTABLE behind one of so many HOURS (1 to 24); none.";
        // HEAT 100 comes of AIR 5.
        Run.says(sentence).tell(warmed(-45)).due("toWarm(0,1)=50");
        Run.says(sentence).tell(warmed(-46)).due("toWarm(0,1)=-1");
        Run.says(sentence).tell(warmed(4)).due("slope(0,9)=0 then(0,1,4)=134 toWarm(0,1)=1 toWarm(0,24)=1 forecast(0,0)=4");
        // At most 100: on OPEN 2 2 melt by 200, and 3 would by 300; 3 make 99 of ICE wet enough.
        Run.says(sentence).tell("slope 90 2;holds crust 0;holds grains 99;layer 0 grains 99 0 99 0;layer 0 crust 99 0 99 0;hour 100;")
            .due("toWarm(0,1)=-1");
        Run.says(sentence).tell("slope 90 3;holds crust 0;holds grains 99;layer 0 grains 99 0 99 0;layer 0 crust 99 0 99 0;hour 99;")
            .due("then(0,1,4)=137 toWarm(0,1)=1");
        // Behind the 24th HOUR only; behind the first one, and not behind the last one, in which RAIN makes GRAINS of HOAR.
        Run.says("behind one of so many HOURS (1 to 24)").tell("slope 50 0;layer 0 hoar 1 0 10 0;" + "hour 0;".repeat(23) + "hour 0 snow 4;")
            .due("toWarm(0,24)=1 toWarm(0,23)=-1");
        Run.says("behind one of so many HOURS (1 to 24)")
            .tell("slope 50 0;holds hoar 50;layer 0 hoar 10 0 100 0;layer 0 crust 2 0 9 0;hour 0 snow 4;hour 0 rain 50;")
            .due("then(0,0,4)=100 then(0,1,4)=33 then(0,2,4)=300 toWarm(0,2)=1");
        // UNSTABLE now, but not behind any HOUR: HOAR that is wet is GRAINS then.
        Run.says("behind one of so many HOURS (1 to 24)").tell("slope 50 0;holds hoar 99;layer 0 hoar 10 1 20 0;layer 0 crust 8 0 9 0;")
            .due("once(0,0)=0 slope(0,9)=1 then(0,1,4)=825 toWarm(0,1)=-1 toWarm(0,24)=-1");
        // UNSTABLE behind each HOUR even so.
        Run.says(sentence).tell(WEAK + "hour -300;").due("toWarm(0,1)=1");
        Run.says("TO WARM; NONE: none. IllegalArgumentException (behind NoSuchElementException): hours.").tell("slope 0 0;")
            .due("toWarm(0,1)=-1 toWarm(0,24)=-1 toWarm(0,0)=IAE " + outside("toWarm(0,#)", 24, "IAE")
            + "toWarm(1,0)=NSE toWarm(-1,25)=NSE");
    }

    private static void matters() {
        String sentence = "MATTERS: the HOUR of the FORECAST without whose FALL RATIO of the WEAKEST of a SLOPE behind so many HOURS (1 to 48) is most another one (of like ones the first): which; by how much; none, if by none.";
        String hoar = "slope 50 0;layer 0 hoar 1 0 10 0;";
        // Only the last HOUR has a FALL: behind 24 HOURS RATIO is 50, behind 48 it is 25; without it 9999.
        Run.says(sentence).tell(hoar + "hour 0;".repeat(23) + "hour 0 snow 4;")
            .due("matters(0,1,0)=-1 matters(0,1,1)=0 matters(0,23,0)=-1 matters(0,24,0)=23 matters(0,24,1)=9949 matters(0,48,0)=23")
            .due("matters(0,48,1)=9974");
        Run.says(sentence).tell(hoar + "hour 0 snow 4;hour 0 snow 4;")
            .due("matters(0,2,0)=0 matters(0,2,1)=25 matters(0,1,0)=0 hours(1) matters(0,1,0)=1");
        // 4 by 5 of BURDEN: without the first 3: 33, without the second 2: 50.
        Run.says(sentence).tell(hoar + "hour 0 snow 4;hour 0 snow 6;").due("matters(0,2,0)=1 matters(0,2,1)=30");
        // HOAR is a FALL too: 3 of it at STEEP 90.
        Run.says(sentence).tell("slope 90 0;layer 0 hoar 1 0 10 0;hour -1 hoar;")
            .due("matters(0,3,0)=0 matters(0,3,1)=9949 matters(0,2,0)=0 matters(0,2,1)=9899 matters(0,1,0)=-1 matters(0,1,1)=0");
        Run.says(sentence).tell(hoar).due("matters(0,48,0)=-1 matters(0,48,1)=0");
        // A question by another AIR or MUCH ahead of it leaves nothing: by 50 more the SNOW would melt, whose BURDEN is 2 by STRENGTH 40.
        Run.says(sentence).tell("slope 50 20;layer 0 crust 1 0 10 0;hour 0 snow 4;")
            .due("matters(0,1,1)=7999 toWarm(0,1)=-1 matters(0,1,1)=7999 matters(0,1,0)=0 falls(0)=49 matters(0,1,1)=7999");
        Run.says("MATTERS: which HOUR (what 0; NONE: none), by how much (1; 0). NoSuchElementException: also another what. IllegalArgumentException (behind that): hours.")
            .tell(hoar)
            .due("matters(0,0,0)=IAE matters(0,0,1)=IAE " + outside("matters(0,#,0)", 48, "IAE") + outside("matters(0,1,#)", 1, "NSE") + "matters(0,0,2)=NSE matters(1,49,0)=NSE matters(-1,0,-1)=NSE");
    }

    private static void pits() {
        Run.says("Of a PIT: its SLOPE (what 0), LAYERS (1), TIME (2) at which it was kept. NoSuchElementException: no such PIT (as everywhere), another what.")
            .tell("slope 0 0;slope 0 0;layer 1 crust 9 0 9 0;")
            .due("pitOf(0,0)=NSE pit(0)=1 hours(24) pit(1)=2 hours(1) dig(1) pitOf(0,0)=0 pitOf(0,1)=0 pitOf(0,2)=0 pitOf(1,0)=1 pitOf(1,1)=1 pitOf(1,2)=24 " + outside("pitOf(#,0)", 1, "NSE") + outside("pitOf(0,#)", 2, "NSE"))
            .due(outside("compare(#,0,0)", 1, "NSE") + outside("compare(0,#,0)", 1, "NSE") + outside("nearest(#)", 1, "NSE") + outside("compare(0,0,#)", 3, "NSE") + "compare(2,2,4)=NSE undo() undo() undo() pitOf(1,0)=NSE compare(0,1,0)=NSE nearest(1)=NSE");
        String sentence = "how many NAMES are in both; the longest row of KINDS that both have from the ground up, some left out (how many)";
        String twelve = "slope 0 0;slope 0 0;slope 0 0;" + "layer 0 crust 1 0 9 0;".repeat(12) + "layer 1 hoar 1 0 9 0;".repeat(12);
        Run.says(sentence).tell(twelve)
            .due("pit(0) pit(1) pit(2) compare(0,0,0)=12 compare(0,1,0)=0 compare(0,2,0)=0 compare(2,2,0)=0 compare(0,0,1)=12 compare(0,1,1)=0")
            .due("compare(0,2,1)=0 compare(2,2,1)=0");
        // 12 LAYERS: the lowest two JOINED to the NAME of the lower one, and a new one.
        Run.says(sentence).tell(twelve).due("pit(0) fall(0,1,1)=12 pit(0) compare(0,1,0)=11 compare(1,0,0)=11 compare(0,1,1)=11 compare(0,1,2)=1");
        // What was DUG away is in no row.
        Run.says(sentence).tell("slope 0 0;layer 0 crust 1 0 9 0;layer 0 hoar 1 0 9 0;")
            .due("pit(0) dig(0) pit(0) compare(1,0,1)=1 compare(0,1,1)=1 compare(1,1,1)=1 compare(0,1,0)=1 compare(1,0,0)=1 compare(0,1,2)=1")
            .due("compare(1,0,2)=1");
        String steps = "must be changed, left out, put in so that KINDS are alike (the fewest steps, one each)";
        Run.says(steps).tell(twelve)
            .due("pit(0) pit(1) pit(2) compare(0,0,2)=0 compare(0,1,2)=12 compare(0,2,2)=12 compare(2,1,2)=12 compare(2,2,2)=0");
        // crust hoar powder grains and hoar powder grains facets: one left out, one put in; by changes it would be 4.
        Run.says(steps).tell("slope 0 0;slope 0 0;layer 0 crust 1 0 9 0;layer 0 hoar 1 0 9 0;layer 0 powder 1 0 9 0;layer 0 grains 1 0 9 0;"
            + "layer 1 hoar 1 0 9 0;layer 1 powder 1 0 9 0;layer 1 grains 1 0 9 0;layer 1 facets 1 0 9 0;").due("pit(0) pit(1) compare(0,1,2)=2 compare(1,0,2)=2 compare(0,1,1)=3 dig(1) pit(1) compare(0,2,2)=1 compare(2,0,2)=1");
        String same = "whether the WEAKEST is the same one (3; not if one has none)";
        Run.says(same).tell(WEAK + "slope 50 0;")
            .due("pit(0) pit(1) hours(1) pit(0) compare(0,2,3)=1 compare(0,1,3)=0 compare(1,0,3)=0 compare(1,1,3)=0 compare(0,0,3)=1");
        // By STEEP 50 it is HOAR, and when what lay on it is gone the lowest one; by STEEP 0 always the lowest one.
        String steeps = "whether the WEAKEST (by STEEP of the SLOPE of each; by names) is the same one.";
        String three = "layer 1 crust 9 0 9 0;layer 1 hoar 1 0 10 0;layer 1 crust 9 0 9 0;";
        Run.says(steeps).tell("slope 0 0;slope 50 0;" + three).due("pit(1) dig(1) pit(1) compare(0,1,3)=0 compare(1,0,3)=0 compare(0,0,3)=1");
        Run.says(steeps).tell("slope 50 0;slope 0 0;" + three).due("pit(1) dig(1) pit(1) compare(0,1,3)=1 compare(1,0,3)=1");
        // Both have LAYER 1 as WEAKEST, by place, but of other NAMES.
        Run.says(same).tell("slope 50 0;layer 0 crust 9 0 9 0;layer 0 hoar 1 0 10 0;layer 0 crust 9 0 9 0;hour -9;")
            .due("pit(0) dig(0) dig(0) fall(0,3,1) fall(0,1,9) slope(0,7)=1 pit(0) compare(0,1,3)=0 compare(0,1,0)=1");
    }

    private static void nearest() {
        String sentence = "NEAREST: the SLOPE whose LAYERS now need the fewest such steps to be like a PIT's (of like ones the first).";
        Run.says(sentence)
            .tell("slope 0 0;slope 0 0;slope 0 0;layer 0 hoar 1 0 9 0;layer 0 hoar 1 0 9 0;layer 1 crust 1 0 9 0;layer 2 crust 1 0 9 0;")
.due("pit(2) nearest(0)=1 dig(1) nearest(0)=2 dig(2) nearest(0)=1 fall(1,1,1) fall(1,1,1) nearest(0)=2 fall(2,1,1) fall(2,1,1)").due("nearest(0)=0");
        // A PIT without LAYERS: the barest SLOPE.
        Run.says(sentence).tell("slope 0 0;slope 0 0;layer 0 crust 1 0 9 0;")
            .due("pit(1) nearest(0)=1 fall(1,1,1) nearest(0)=0 fall(0,1,1) nearest(0)=1");
    }

    private static void note() {
        Run.says("NOTED: how much is. NONE (STATUS 2): there are 8, no such SLOPE, hours not 0 to 48, depth not 0 to 9999.")
            .due("note(0,0,0)=-1 count(17)=1").tell("slope 0 0;slope 0 0;")
            .due(outside("note(#,0,0)", 1, "-1") + outside("note(0,#,0)", 48, "-1") + outside("note(0,0,#)", 9999, "-1") + "count(17)=13 count(13)=0 count(16)=0 count(12)=0")
.due("note(0,0,0)=1 note(1,48,9999)=2 note(0,0,0)=3 note(0,0,0)=4 note(0,0,0)=5 note(0,0,0)=6 note(0,0,0)=7 count(13)=7 note(0,0,0)=8")
            .due("note(0,0,0)=-1 count(13)=8 count(17)=14 count(12)=0 undo()=-1");
        Run.says("All that is NOTED is forgotten.").tell("slope 0 0;")
            .due("forget() count(13)=0 8*note(0,0,9) falls(2)=0 note(0,0,0)=-1 forget() count(13)=0 falls(2)=1 count(17)=1 note(0,0,0)=1");
    }

    private static void falls() {
        String sentence = "HOURS of the FORECAST with SNOW or RAIN, and another MUCH (1 to 50), by which, were it so from now on, all NOTED would be so: how many; the first (100 by the HOUR, and MUCH); whether it is so without (1).";
        Run.says(sentence).tell("slope 0 0;hour 0;hour -5 hoar;").due("falls(0)=0 falls(1)=-1 falls(2)=1 note(0,0,1) falls(2)=0");
        // Without anything NOTED each other MUCH of each suits, but its own doesn't count.
        Run.says(sentence).tell("slope 0 0;hour -9 hoar;hour 0 snow 1;hour 0 rain 50;").due("falls(0)=98 falls(1)=102 falls(2)=1");
        Run.says(sentence).tell("hour 0 snow 50;").due("falls(0)=49 falls(1)=1 falls(2)=1");
        // The least and the most: of 1 DEPTH 10, of 50 DEPTH 500, of which 12 are pressed away.
        Run.says(sentence).tell("slope 0 0;hour 0 snow 7;hour 0;")
            .due("note(0,1,10) falls(0)=1 falls(1)=1 forget() note(0,1,488) falls(0)=1 falls(1)=50 falls(2)=0 forget() note(0,1,70) falls(0)=0")
            .due("falls(1)=-1 falls(2)=1");
        // The 24th HOUR comes as the 24th and the 48th: 60, 60, and 60 and 60.
        Run.says(sentence).tell("slope 0 0;" + "hour 0;".repeat(23) + "hour 0 snow 5;")
            .due("note(0,48,120)=1 falls(0)=1 falls(1)=2306 note(0,47,60)=2 note(0,24,60)=3 note(0,23,0)=4 note(0,0,0)=5 falls(0)=1 falls(2)=0")
            .due("note(0,24,0)=6 falls(0)=0");
        // From now on: what fell stays as it fell, 50, and the HOUR is the one that comes round.
        Run.says(sentence).tell("slope 0 0;hour 0 snow 5;hour 0;")
            .due("hours(1) note(0,0,50) note(0,2,110) falls(0)=1 falls(1)=6 note(0,0,60) falls(0)=0");
        // Of two that suit the first by the HOUR.
        Run.says(sentence).tell("slope 0 0;hour 0 snow 5;hour 0 snow 5;")
            .due("note(0,2,110) falls(0)=2 falls(1)=6 note(0,1,50) falls(0)=1 falls(1)=106");
        // Each comes round by itself, while the others are as told: 5 and 6, twice, either way.
        Run.says(sentence).tell("slope 0 0;stiff powder 9999;hour 0 snow 5;hour 0 snow 5;")
            .due("note(0,4,220) falls(0)=2 falls(1)=6 note(0,3,160) falls(0)=1 falls(1)=106");
        // TIME 1 of 3 HOURS: the third comes as the second of the next ones.
        Run.says(sentence).tell("slope 0 0;hour 0;hour 0;hour 0 snow 5;")
            .due("hours(1) note(0,1,0) note(0,2,60) falls(0)=1 falls(1)=206 note(0,5,120) falls(0)=1 look(1)=1");
        // All that comes up to the HOUR must be so, too.
        Run.says(sentence).tell("slope 0 0;hour 0;hour 0 snow 5;").due("note(0,0,1) falls(0)=0 falls(1)=-1 look(0)=-1");
        // TIME 2 of 3 HOURS: the third is the one that comes.
        Run.says(sentence).tell("slope 0 0;hour 0;hour 0;hour 0 snow 5;").due("hours(2) note(0,1,60) falls(0)=1 falls(1)=206");
        // What is so without: behind 0, 1 and 48 HOURS.
        Run.says(sentence).tell("slope 0 0;stiff powder 9999;stiff grains 9999;hour 0 snow 1;")
            .due("note(0,0,0) falls(2)=1 note(0,1,10) falls(2)=1 then(0,47,0)=469 note(0,47,469) falls(2)=1 note(0,48,478) falls(2)=1 note(0,1,11)")
            .due("falls(2)=0");
        // A question by another AIR ahead of it leaves nothing: by 50 more the SNOW would melt.
        Run.says(sentence).tell("slope 0 20;hour 0 snow 5;hour 30;")
            .due("note(0,1,60) falls(0)=1 toWarm(0,24)=-1 falls(0)=1 falls(1)=6 look(1)=1 matters(0,2,0)=-1 falls(0)=1");
        // All that is NOTED, on all SLOPES.
        Run.says(sentence).tell("slope 0 0;slope 0 0;layer 1 crust 9 0 9 0;hour 0 snow 5;")
            .due("note(0,1,60) falls(0)=1 note(1,1,69) falls(0)=1 note(1,1,70) falls(0)=0 falls(1)=-1");
        Run.says("FALLS: how many (what 0), the first (1; NONE: none), whether without (2). NoSuchElementException: another what.")
            .due(outside("falls(#)", 2, "NSE") + "falls(0)=0 falls(1)=-1 falls(2)=1");
    }

    private static void look() {
        String sentence = "LOOK NEXT: the SLOPE whose DEPTH behind 24 HOURS is by these most unlike (of like ones the first): which; how many unlike; none without any.";
        // In the 24th HOUR it still counts; each MUCH but 5 makes a DEPTH of its own. Of like SLOPES the first.
        Run.says(sentence).tell("slope 0 0;slope 0 0;" + "hour 0;".repeat(23) + "hour 0 snow 5;")
            .due("look(0)=0 look(1)=49 note(1,24,60) look(0)=0 look(1)=1 note(1,24,61) look(0)=-1 look(1)=0");
        // RAIN on a bare SLOPE makes no DEPTH; on one that holds it each makes its own: from 1 to 49 of 50.
        Run.says(sentence).tell("slope 0 0;slope 0 0;holds crust 99;layer 1 crust 50 0 50 0;hour 0 rain 5;" + "hour 0;".repeat(23))
            .due("look(0)=1 look(1)=48 dig(1) look(0)=0 look(1)=1");
        // Behind 24 HOURS from now, whatever is NOTED: by a second RAIN fewer would be unlike.
        Run.says(sentence).tell("slope 0 0;slope 0 0;holds crust 99;layer 1 crust 50 0 50 0;hour 0 rain 5;" + "hour 0;".repeat(23))
            .due("note(0,24,0) look(0)=1 look(1)=48 note(0,48,0) look(1)=48");
        // By RAIN of 1 to 10 DEPTH is 60 at first; behind 24 HOURS it is 50 and 24, 48, and 49, which is all that it holds.
        Run.says(sentence).tell("slope 0 0;holds crust 99;layer 0 crust 50 0 60 0;hour 0 rain 5;").due("note(0,1,60) falls(0)=9 look(0)=0 look(1)=3");
        // Four SLOPES: of the last one most are unlike.
        Run.says(sentence)
            .tell("slope 0 0;slope 0 0;slope 0 0;slope 0 0;holds crust 99;layer 3 crust 50 0 50 0;hour 0 rain 5;" + "hour 0;".repeat(23))
            .due("look(0)=3 look(1)=48 falls(0)=49");
        Run.says(sentence).tell("slope 0 0;hour -1 hoar;").due("look(0)=-1 look(1)=0");
        Run.says(sentence).tell("hour 0 snow 5;").due("look(0)=-1 look(1)=0");
        Run.says("LOOK NEXT: which (what 0; NONE), how many unlike (1; 0: none). NoSuchElementException: another what.")
            .due("look(0)=-1 look(1)=0 " + outside("look(#)", 1, "NSE"));
    }

    private static void odds() {
        String sentence = "each FALL of the next so many HOURS (1 to 6) doesn't come with so many tenths (0 to 10), by itself";
        String hoar = "slope 50 0;layer 0 hoar 1 0 10 0;";
        Run.says(sentence).tell(hoar + "hour 0 snow 4;")
            .due("odds(0,1,0)=10 odds(0,1,10)=0 odds(0,1,3)=7 odds(0,2,3)=91 odds(0,6,1)=999999 odds(0,6,9)=468559 odds(0,6,0)=1000000")
            .due("odds(0,6,10)=0");
        // Each of 2 by itself isn't enough: both must come.
        Run.says(sentence).tell(hoar + "hour 0 snow 2;").due("odds(0,1,0)=0 odds(0,2,0)=100 odds(0,2,3)=49 odds(0,2,5)=25 odds(0,3,5)=500");
        String power = "as so many of 10 to the power of these HOURS (an HOUR without a FALL: both ways alike)";
        Run.says(power).tell(hoar + "hour 0 snow 4;hour 0;")
            .due("odds(0,1,3)=7 odds(0,2,3)=70 odds(0,3,3)=910 hours(1) odds(0,1,3)=10 undo() odds(0,6,5)=875000");
        Run.says(power).tell(hoar + "hour 0;hour 0 snow 4;hour 0;")
            .due("odds(0,1,3)=0 odds(0,2,3)=70 odds(0,3,3)=700 hours(2) odds(0,1,3)=10 undo() odds(0,5,3)=91000");
        Run.says(power).tell(WEAK).due("odds(0,1,0)=10 odds(0,1,10)=10 odds(0,6,7)=1000000");
        Run.says(power).tell(WEAK + "hour 0 snow 1;").due("odds(0,1,5)=10 odds(0,6,5)=1000000");
        Run.says(power).tell("slope 0 0;").due("odds(0,6,5)=0 odds(0,1,0)=0");
        // Behind these HOURS, not within: WATER makes GRAINS of what is UNSTABLE.
        Run.says("how likely a SLOPE is UNSTABLE behind these HOURS").tell("slope 50 0;holds hoar 99;layer 0 hoar 10 1 20 0;layer 0 crust 8 0 9 0;")
            .due("slope(0,9)=1 odds(0,1,0)=0");
        Run.says("ODDS. IllegalArgumentException (behind NoSuchElementException): hours, tenths.").tell(hoar)
            .due("odds(0,0,0)=IAE " + outside("odds(0,#,0)", 6, "IAE") + outside("odds(0,1,#)", 10, "IAE") + "odds(1,0,0)=NSE odds(-1,1,11)=NSE");
    }

    private static void years() {
        String sentence = "YEARS: SLIDES (what 0), SLID (1), DEPTH (2). NoSuchElementException: another what. IllegalArgumentException (behind that): n.";
        Run.says(sentence)
            .due("years(0,0,0)=0 years(1,30,0)=0 years(1,30,1)=0 years(1,30,2)=0 " + outside("years(0,#,0)", 30, "IAE") + outside("years(0,1,#)", 2, "NSE") + "years(0,31,3)=NSE years(0,-1,-1)=NSE");
        String times = "n times (0 to 30)";
        Run.says(times).tell(WEAK).due("years(3,0,0)=0 years(3,0,1)=0 years(3,0,2)=50 years(3,1,0)=1 years(3,1,1)=4 years(3,1,2)=10");
        // By -1 a SLIDE comes twice: the one above the WEAKEST, then HOAR is UNSTABLE still.
        String twice = "slope 50 0;strong facets 0;layer 0 hoar 1 0 10 0;layer 0 facets 8 0 9 0;layer 0 crust 6 0 7 0;";
        Run.says("5 a SLIDE on each SLOPE that is UNSTABLE").tell(twice)
            .due("slope(0,7)=1 years(-1,1,0)=1 years(-1,1,1)=6 years(-1,1,2)=19 years(-1,2,0)=2 years(-1,2,1)=14 years(-1,2,2)=10");
        Run.says("5 a SLIDE on each SLOPE that is UNSTABLE")
            .tell(twice + "slope 0 0;layer 1 crust 1 0 2 0;slope 50 0;layer 2 hoar 1 0 10 0;layer 2 crust 4 0 5 0;")
            .due("years(3,1,0)=2 years(3,1,1)=10 years(3,1,2)=31");
        // Four SLOPES, of which the last two slide.
        Run.says("5 a SLIDE on each SLOPE that is UNSTABLE")
            .tell("slope 50 0;slope 50 0;slope 50 0;slope 50 0;layer 2 hoar 1 0 10 0;layer 2 crust 4 0 5 0;layer 3 hoar 1 0 10 0;layer 3 crust 5 0 5 0;")
            .due("years(3,1,0)=2 years(3,1,1)=9 years(3,1,2)=20");
        // What has SLID before doesn't count.
        Run.says("how many SLIDES; ICE and WATER that SLID, all together").tell(WEAK).due("slide(0)=1 years(3,1,0)=0 years(3,1,1)=0 years(3,1,2)=10");
        Run.says("(without SLOPES nothing is drawn behind 2 to 4)").tell("hour 5 snow 5;").due("years(1,30,0)=0 years(7,30,1)=0 years(12,30,2)=0");
    }

    private static void draws() {
        // Bits 16 to 30 of the seeds are worked out elsewhere. By 0: 0, 21468; by 13: 22290, 13853; by -14: 26407, 12023; all in MOD 6.
        Run.says("0, 1 HOURS go by, a DRAW of 6 and 1").tell("slope 0 0;hour 0 snow 1;")
            .due("years(0,1,2)=10 years(13,1,2)=60 years(-14,1,2)=60 years(42,1,2)=60 years(24,1,2)=10");
        // By 1: 16838 MOD 6 is 2, 5758, 10113 MOD 20 and 1 is 14; by 6: 2726, 25515, 10742 MOD 20 and 1 is 3; by 48: 21806, 21081, 16023: 4.
        Run.says("2 SNOW by hand, a DRAW of SLOPES, a DRAW of 20 and 1").tell("slope 0 0;")
            .due("years(1,1,2)=140 years(6,1,2)=30 years(48,1,2)=40 years(-18,1,2)=50");
        // By 16: RAIN of 11999 MOD 20 and 1, 20, then 2 HOURS, in which DEPTH is no less than 40 and 20; by 30: RAIN of 1.
        Run.says("3 RAIN so").tell("slope 0 0;holds crust 99;layer 0 crust 40 0 40 0;")
            .due("years(16,1,2)=40 years(16,2,2)=60 years(30,1,2)=40 years(30,2,2)=41");
        // By 7: 19564 MOD 6 is 4, 9806 MOD 4 is 2, MOD 3 is 2, MOD 2 is 0; by 8: 3634, 26864 MOD 4 is 0; by 26: 11812, 6239 MOD 4 is 3.
        String dug = "4 the top LAYER of a DRAW of SLOPES is DUG away, if there is one";
        String four = "slope 0 0;layer 0 crust 1 0 1 0;slope 0 0;layer 1 crust 1 0 2 0;slope 0 0;layer 2 crust 1 0 4 0;slope 0 0;layer 3 crust 1 0 8 0;";
        Run.says(dug).tell(four).due("years(7,1,2)=11 years(8,1,2)=14 years(26,1,2)=7 years(22,1,2)=13 years(7,1,1)=0");
        Run.says(dug).tell(four.substring(0, four.lastIndexOf("slope"))).due("years(7,1,2)=3");
        // Then by 7 10868 MOD 6 is 2, SNOW, and 32531 MOD 20 and 1 is 12, whether there was one or not.
        Run.says(dug).tell(four).due("years(7,2,2)=131 dig(2)=2 years(7,1,2)=11 years(7,2,2)=131");
        // Seeds beyond an int's half wrap: -1 and the greatest one draw alike, so do 0 and the least one.
        Run.says("A seed becomes itself times 1103515245 and 12345 (an int that wraps); a DRAW of n is its bits 16 to 30 MOD n then.")
            .tell("slope 0 0;hour 0 snow 1;")
            .due("years(MIN,1,2)=10 years(MIN,2,2)=0 years(0,2,2)=0 years(-2147483647,1,2)=140 years(1,1,2)=140 years(MAX,2,2)=0 years(-1,2,2)=0");
    }

    private static void image() {
        Run.says("It is as the IMAGE again: true. False: there is none.")
            .due("restore()=0 hours(1)=1 restore()=0 count(2)=1 image() restore()=1 restore()=1 count(2)=1").tell("slope 0 0;")
            .due("restore()=0 image() restore()=1");
        Run.says("AN IMAGE is kept, in place of another one.").tell("slope 0 0;")
            .due("hours(1) image() hours(1) image() hours(1) restore()=1 count(2)=2 hours(5)=7 restore()=1 count(2)=2");
        String sentence = "AN IMAGE keeps all that HOURS and ACTS change, PITS, ACTS that are kept, what is NOTED, STATUS.";
        // All is full: of 44 ACTS the first PIT's and those ahead of it aren't kept; then all is emptied, and comes back, twice.
        Run r = Run.says(sentence).tell("slope 50 5;layer 0 hoar 1 0 10 0;layer 0 crust 8 0 9 0;hour -9 snow 5;hour 20 rain 3;")
            .due("slide(0)=1 dig(0)=0 fall(0,2,7)=0 6*pit(0) 35*hours(1) 8*note(0,0,1) hours(0)=-1 note(0,0,1)=-1 image()");
        String full = all(r.x);
        for (int round = 0; round < 2; round++) {
            r.due("40*undo() undo()=-1 count(2)=0 count(11)=1 pit(0)=2 forget() hours(0)=-1 note(7,7,7)=-1 fall(0,1,9)=1 count(16)=2")
                .due("count(17)=2 restore()=1")
                .due("count(2)=35 count(6)=1 count(7)=8 count(8)=1 count(11)=6 count(12)=40 count(13)=8 count(16)=1 count(17)=1 pitOf(5,1)=0");
            Check.same("all is as the IMAGE again", all(r.x).equals(full) ? 1 : 0, 1);
        }
        // ACTS, PITS and what is NOTED behind the IMAGE, in the places of those that it keeps.
        Run.says(sentence).tell("slope 0 0;slope 0 0;layer 0 crust 7 0 9 0;layer 0 hoar 7 0 9 0;layer 1 crust 7 0 9 0;")
            .due("hours(4) pit(0)=1 fall(1,1,2)=2 note(0,2,18)=1 image() 3*undo() pit(1)=1 fall(1,1,9)=2 fall(1,1,9)=3 hours(3)=3 forget()")
.due("note(1,1,99)=1 falls(2)=0 pitOf(0,0)=1 pitOf(0,1)=1 pitOf(0,2)=0 restore()=1 pitOf(0,0)=0 pitOf(0,1)=2 pitOf(0,2)=4 pit(0)=2")
            .due("compare(0,1,0)=2 compare(0,1,2)=0 falls(2)=1 count(13)=1 note(0,48,18)=2 falls(2)=1 note(0,2,19)=3 falls(2)=0")
.due("undo()=3 slope(1,4)=9 undo()=2 slope(1,4)=7 count(11)=1 undo()=1 count(11)=0 count(2)=4 undo()=0 count(2)=0 slope(0,2)=2").due("slope(1,2)=1");
        // HOURS of what is NOTED, and the first ACT, though all its places were used behind the IMAGE.
        Run.says(sentence).tell("slope 0 0;hour 0 snow 1;")
            .due("note(0,2,20)=1 falls(2)=1 image() forget() note(0,1,10)=1 restore()=1 falls(2)=1 note(0,1,10)=2 falls(2)=1");
        Run.says(sentence).tell("slope 0 0;").due("2*hours(1) image() 45*hours(1) restore()=1 undo()=1 count(2)=1 undo()=0 count(2)=0 undo()=-1");
        // What came behind the IMAGE is gone: NAMES, RUNOFF, SLIDES.
        Run.says(sentence).tell(WEAK + "hour -9 snow 5;")
            .due("image() slide(0)=1 hours(3)=3 fall(0,2,9) pit(0)=1 note(0,0,0)=1 dig(0) dig(9)=-1 restore()=1 count(2)=0 count(4)=2 count(5)=0")
            .due("count(6)=0 count(7)=0 count(8)=0 count(11)=0 count(12)=0")
            .due("count(13)=0 count(16)=0 slope(0,2)=2 undo()=-1");
    }

    private static String all(SnowRecorder x) {
        StringBuilder s = new StringBuilder();
        for (int what = 0; what <= 17; what++) {
            s.append(x.count(what)).append(' ');
        }
        for (int hour = 0; hour < x.count(1); hour++) {
            s.append(x.forecast(hour, 0)).append(' ').append(x.forecast(hour, 1)).append(' ').append(x.forecast(hour, 2)).append(' ');
        }
        for (int slope = 0; slope < x.count(0); slope++) {
            for (int what = 0; what <= 9; what++) {
                s.append(x.slope(slope, what)).append(' ');
            }
            for (int layer = 0; layer < x.slope(slope, 2); layer++) {
                for (int what = 0; what <= 11; what++) {
                    s.append(x.layer(slope, layer, what)).append(' ');
                }
            }
        }
        return s.append(x.fault()).append(' ').append(x.pitOf(0, 1)).append(x.pitOf(0, 2)).toString();
    }

    private static void questionsChangeNothing() {
        Run r = Run.says("(If only HOURS go by, from now on:)")
            .tell("slope 50 5;slope 60 9;layer 0 hoar 1 0 10 30;layer 0 crust 8 1 90 40;layer 1 facets 9 0 99 3;hour -90 snow 5;hour 20 rain 3;hour -5 hoar;")
            .due("hours(5) pit(0) note(0,3,99) note(1,1,1) dig(1) hours(0) feed(1,2,3,4,5)");
        String before = all(r.x);
        for (String call : ("then(0,72,0) then(1,9,5) once(0,0) once(1,1) gone(0) gone(2) stands(0,0) toLoad(0) steepest(1) toWarm(0,24) toWarm(1,24) matters(0,48,0) matters(1,7,1) compare(0,0,1)"
                + " compare(0,0,2) nearest(0) falls(0) falls(1) falls(2) look(0) look(1) odds(0,6,5) years(3,30,0) years(7,30,2) told(0,0,3) image() restore() then(0,99,0) odds(9,9,9) count(99)").split(" ")) {
            r.due(call);
            Check.same(call + " changes nothing", all(r.x).equals(before) ? 1 : 0, 1);
        }
        r.due("undo()=2 count(12)=2");
    }
}
