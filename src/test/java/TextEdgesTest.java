/** Terms 1 and promises 1 to 4: each sentence that names an edge of a text or of the tape, with a test of its own. */
public final class TextEdgesTest {
    private static final String LAYERS_TOLD = "layer 0 powder 1 0 1 0;";
    private static final String[] KINDS = {"powder", "grains", "facets", "crust", "hoar"};

    /** One right clause of each form, its tokens with a blank between each two. */
    private static final String[] CLAUSES = {
        "slope 1 1 ;", "layer 0 powder 1 0 1 0 ;", "hour 5 ;", "hour - 5 ;", "hour 5 snow 5 ;", "hour - 5 rain 5 ;", "hour 5 hoar ;",
        "strong hoar 5 ;", "holds crust 5 ;", "stiff facets 5 ;",
    };

    public static void main(String[] args) throws Exception {
        aNewObject();
        howMany();
        limitsOfNumbers();
        table();
        tokens();
        endsTooSoon();
        cannotStand();
        tooMuch();
        otherFaults();
        firstAndLeast();
        feed();
        snow();
        aFault();
        allAnew();
        fault();
        Run.finish();
    }

    private static void aNewObject() {
        for (int what = 0; what <= 17; what++) {
            Run.says("`SnowRecorder()`: No SLOPES.").due("count(" + what + ")=" + (what == 10 ? -1 : 0));
        }
        Run.says("`SnowRecorder()`: No SLOPES.").due("slope(0,0)=NSE forecast(0,0)=NSE gone(0)=NSE"
            + " pitOf(0,0)=NSE falls(2)=1 look(0)=-1 undo()=-1 restore()=0 fault()=-1 hours(24)=24");
    }

    private static void howMany() {
        Run.says("SLOPES 0, 1 .. (at most 4)").tell("slope 1 1;slope 2 2;slope 3 3;slope 4 4;")
            .due("count(0)=4 slope(0,0)=1 slope(3,0)=4 slope(3,1)=4 slope(4,0)=NSE slope(-1,0)=NSE");
        String four = "slope 1 1;".repeat(4);
        Run.says("the first word of the 5th 'slope', the 25th 'hour'").tell(four + "slope 1 1;", 2, 40).tell(four + "slope", 2, 40)
            .tell(four + "\n slope 91 ?", 2, 42).tell("hour 1;".repeat(24) + "hour 1;", 2, 168).tell("hour 1;".repeat(24) + "hour", 2, 168)
            .tell("hour 1;".repeat(24) + " hour 101;", 2, 169);
        Run.says("LAYERS 0, 1 .. (at most 12; 0 is on the ground)")
            .tell("slope 1 1;layer 0 crust 7 0 9 0;" + LAYERS_TOLD.repeat(10) + "layer 0 crust 8 0 9 0;")
            .due("slope(0,2)=12 layer(0,0,1)=7 layer(0,11,1)=8 layer(0,12,0)=NSE layer(0,-1,0)=NSE");
        Run.says("the 13th LAYER of a SLOPE (at the SLOPE)").tell("slope 1 1;" + LAYERS_TOLD.repeat(12) + "layer 0", 2, 10 + 276 + 6)
            .tell("slope 1 1;" + LAYERS_TOLD.repeat(12) + "layer  0 ice", 2, 10 + 276 + 7)
            .tell("slope 1 1;slope 1 1;" + LAYERS_TOLD.repeat(12) + LAYERS_TOLD.replace('0', '1').replace(" 1 1 ", " 1 0 ").repeat(12))
            .due("slope(0,2)=12 slope(1,2)=12 count(3)=24 count(4)=24");
        Run.says("HOURS of the FORECAST (at most 24)").tell("hour 1;".repeat(23) + "hour 9;")
            .due("count(1)=24 forecast(23,0)=9 forecast(24,0)=NSE forecast(-1,0)=NSE");
        Run.says("a NAME (NAMES are given from 0 on, one after the other, to LAYERS as they are told or come)")
            .tell("slope 1 1;slope 1 1;layer 1 crust 1 0 1 0;layer 0 crust 1 0 1 0;layer 1 crust 1 0 1 0;")
.due("layer(1,0,6)=0 layer(0,0,6)=1 layer(1,1,6)=2 count(4)=3 fall(0,1,1)=2 layer(0,1,6)=3 dig(0)=3 fall(1,1,1)=3 layer(1,2,6)=4").due("count(4)=5");
        Run.says("A 'layer' lies on top; AGE 0.").tell("slope 1 1;layer 0 crust 1 0 1 0;layer 0 hoar 2 0 2 0;")
            .due("layer(0,1,0)=4 layer(0,1,5)=0 layer(0,0,0)=3 layer(0,0,5)=0 dig(0)=1");
    }

    /** A number at its least and its most is right, one beyond is a FAULT 2 at the number. */
    private static void limits(String sentence, String ahead, int least, int most, String behind) {
        Run.says(sentence).tell(ahead + least + behind).tell(ahead + most + behind).tell(ahead + (most + 1) + behind, 2, ahead.length());
        // Nor is it read up to its most only.
        Run.says(sentence).tell(ahead + most + "0" + behind, 2, ahead.length())
            .tell(ahead + "9999" + (most == 9999 ? "9" : "") + behind, 2, ahead.length());
        if (least > 0) {
            Run.says(sentence).tell(ahead + (least - 1) + behind, 2, ahead.length());
        }
    }

    private static void limitsOfNumbers() {
        limits("each with a STEEP (0 to 90, hundredths)", "slope ", 0, 90, " 0;");
        limits("an OPEN (0 to 20)", "slope 0 ", 0, 20, ";");
        limits("(SLOPE 0 to 3)", "slope 1 1;slope 1 1;slope 1 1;slope 1 1;layer ", 0, 3, " powder 1 0 1 0;");
        limits("ICE 1 to 99", "slope 1 1;layer 0 crust ", 1, 99, " 0 99 0;");
        limits("WATER 0 to 99", "slope 1 1;layer 0 crust 1 ", 0, 99, " 100 0;");
        limits("DEPTH 1 to 999", "slope 1 1;layer 0 crust 1 0 ", 1, 999, " 0;");
        limits("COLD 0 to 300 (TEMP is less than 0 by it)", "slope 1 1;layer 0 crust 1 0 1 ", 0, 300, ";");
        limits("AIR 0 to 100, behind '-' 0 to 300", "hour ", 0, 100, ";");
        limits("AIR 0 to 100, behind '-' 0 to 300", "hour -", 0, 300, ";");
        limits("MUCH 1 to 50", "hour 0 snow ", 1, 50, ";");
        limits("MUCH 1 to 50", "hour 0 rain ", 1, 50, ";");
        for (String kind : KINDS) {
            limits("of 'strong' 0 to 99", "strong " + kind + " ", 0, 99, ";");
            limits("of 'holds' 0 to 99", "holds " + kind + " ", 0, 99, ";");
            limits("of 'stiff' 1 to 9999", "stiff " + kind + " ", 1, 9999, ";");
        }
        Run.says("COLD 0 to 300 (TEMP is less than 0 by it)")
            .tell("slope 1 1;layer 0 crust 99 98 999 300;layer 0 crust 1 0 1 0;layer 0 crust 1 0 1 1;")
            .due("layer(0,0,1)=99 layer(0,0,2)=98 layer(0,0,3)=999 layer(0,0,4)=-300 layer(0,1,4)=0 layer(0,2,4)=-1");
        Run.says("AIR (-300 to 100, tenths)").tell("hour -300;hour 100;hour -0;hour 0;hour - 1;")
            .due("forecast(0,0)=-300 forecast(1,0)=100 forecast(2,0)=0 forecast(3,0)=0 forecast(4,0)=-1");
        Run.says("perhaps a FALL: SNOW, RAIN (1 to 50), HOAR.").tell("hour 1 snow 50;hour 1 rain 1;hour 1 hoar;hour 1;")
            .due("forecast(0,1)=1 forecast(0,2)=50 forecast(1,1)=2 forecast(1,2)=1 forecast(2,1)=3 forecast(2,2)=0 forecast(3,1)=0 forecast(3,2)=0");
        Run.says("A LAYER has a KIND (0 POWDER, 1 GRAINS, 2 FACETS, 3 CRUST, 4 HOAR)")
            .tell("slope 1 1;layer 0 powder 1 0 1 0;layer 0 grains 1 0 1 0;layer 0 facets 1 0 1 0;layer 0 crust 1 0 1 0;layer 0 hoar 1 0 1 0;")
            .due("layer(0,0,0)=0 layer(0,1,0)=1 layer(0,2,0)=2 layer(0,3,0)=3 layer(0,4,0)=4");
    }

    private static void table() {
        String otherwise = "where the TEXT doesn't tell otherwise.";
        int[] strong = {3, 12, 4, 40, 1};
        // 50 of WATER, of which 99 times HOLDS by 100 stays; 999 times 49 by STIFF goes.
        int[] runsOff = {46, 43, 48, 49, 50};
        int[] pressedTo = {951, 987, 991, 994, 993};
        for (int kind = 0; kind < 5; kind++) {
            String layer = "slope 1 0;layer 0 " + KINDS[kind];
            String others = "";
            for (int other = 0; other < 5; other++) {
                others += other == kind ? "" : "strong " + KINDS[other] + " 77;holds " + KINDS[other] + " 77;stiff " + KINDS[other] + " 77;";
            }
            // STRONG times 10 times 10 by 100. What is told of the others counts for nothing.
            for (String told : new String[] {"", others}) {
                Run.says(otherwise).tell(told + layer + " 10 0 100 0;").due("layer(0,0,9)=" + strong[kind]);
                Run.says(otherwise).tell(told + layer + " 99 50 999 0;").due("hours(1)=1 slope(0,6)=" + runsOff[kind]);
                Run.says(otherwise).tell(told + layer + " 99 0 999 0;").due("hours(1)=1 layer(0,0,3)=" + pressedTo[kind]);
            }
            // 198 of ICE, JOINED of two, hold just 198 times HOLDS by 100 of 50.
            Run.says(otherwise).tell(layer + " 99 0 990 0;layer 0 " + KINDS[kind] + " 99 0 990 0;" + "layer 0 crust 1 0 1 0;".repeat(10))
                .due("fall(0,1,1)=12 11*dig(0) layer(0,0,1)=198 fall(0,2,50)=1 hours(1)=1 slope(0,6)=" + new int[] {41, 35, 45, 47, 49}[kind]);
            // LOAD and DEPTH that make just STIFF, and just too little for it (by CRUST for twice as much).
            int[] just = {2, 500, 8, 500, 12, 500, 18, 500, 16, 500};
            int[] less = {3, 333, 43, 93, 7, 857, 41, 439, 19, 421};
            Run.says(otherwise).tell(layer + " " + 2 * just[2 * kind] + " 0 " + just[2 * kind + 1] + " 0;")
                .due("hours(1)=1 layer(0,0,3)=" + (just[2 * kind + 1] - 1));
            Run.says(otherwise).tell(layer + " " + 2 * less[2 * kind] + " 0 " + less[2 * kind + 1] + " 0;")
                .due("hours(1)=1 layer(0,0,3)=" + (less[2 * kind + 1] - (kind == 3 ? 1 : 0)));
            Run.says(otherwise).tell("strong " + KINDS[kind] + " 99;" + layer + " 10 0 100 0;").due("layer(0,0,9)=99");
            Run.says(otherwise).tell("holds " + KINDS[kind] + " 10;" + layer + " 99 50 999 0;").due("hours(1)=1 slope(0,6)=41");
            Run.says(otherwise).tell("stiff " + KINDS[kind] + " 500;" + layer + " 99 0 999 0;").due("hours(1)=1 layer(0,0,3)=902");
            // Told behind the LAYER is told as well.
            Run.says(otherwise).tell(layer + " 10 0 100 0;strong " + KINDS[kind] + " 0;").due("layer(0,0,9)=0");
        }
    }

    private static void tokens() {
        Run.says("words (a .. z, the longest row)").tell("slopeslope 1 1;", 1, 0).tell("slopes 1 1;", 1, 0).tell("slop 1 1;", 1, 0)
            .tell("s lope 1 1;", 1, 0).tell("hour 1 snowrain 5;", 1, 7).tell("hour 1 hoarhoar;", 1, 7).tell("hours 1;", 1, 0)
            .tell("strong powders 1;", 1, 7).tell("Slope 1 1;", 1, 0).tell("slopE 1 1;", 1, 0);
        for (String clause : CLAUSES) {
            int at = 10;
            for (String token : clause.split(" ")) {
                if (Character.isLetter(token.charAt(0))) {
                    for (String other : new String[] {"z" + token.substring(1), token.substring(0, token.length() - 1) + "z", token + "z", "z" + token, token.substring(1)}) {
                        String rest = clause.substring(at - 10 + token.length());
                        Run.says("words (a .. z, the longest row)").tell("slope 1 1;" + clause.substring(0, at - 10) + other + rest, 1, at);
                    }
                }
                at += token.length() + 1;
            }
        }
        Run.says("NUMBERS (1 to 4 digits)").tell("slope 0090 0020;").due("slope(0,0)=90 slope(0,1)=20").tell("slope 9 0 1;", 1, 10)
            .tell("slope 1 1;layer 0000 crust 0099 0000 0999 0300;").due("layer(0,0,4)=-300 layer(0,0,3)=999");
        Run.says("signs ; - and blanks (32, 10) between them, which count for nothing").tell("slope1 1;layer0powder1 0 1 0;hour-5snow5;strong hoar0;")
            .due("count(0)=1 count(3)=1 forecast(0,0)=-5 forecast(0,2)=5").tell("\n\n slope \n1\n1\n;\n \n").due("count(0)=1 slope(0,1)=1")
            .tell("  \n").due("count(0)=0");
        // The neighbours of blanks, digits, letters and signs are no TOKENS.
        for (int sign : new int[] {0, 1, 9, 11, 13, 31, 33, 44, 46, 47, 58, 60, 64, 65, 90, 91, 95, 96, 123, 127, 128, 160, 176, 223, 225, 250, 255}) {
            String one = Character.toString((char) sign);
            Run.says("1 a TOKEN that can't stand there, or is none").tell(one, 1, 0).tell("slope" + one + "1 1;", 1, 5)
                .tell("slope 1" + one + "1;", 1, 7)
                .tell("slope 1 1;" + one, 1, 10).tell("hour 1 ho" + one + "ar;", 1, 7).due("count(15)=5");
        }
        Run.says("TEXT: CLAUSE*.").tell("").due("count(0)=0 count(1)=0").tell(";", 1, 0).tell("slope 1 1;;", 1, 10).tell("hour 1;hour 2;")
            .due("count(1)=2");
    }

    private static void endsTooSoon() {
        String sentence = "(the text's length where it ends too soon)";
        for (String clause : CLAUSES) {
            String ahead = "slope 1 1;";
            for (int i = clause.indexOf(' '); i >= 0; i = clause.indexOf(' ', i + 1)) {
                String cut = ahead + clause.substring(0, i);
                Run.says(sentence).tell(cut, 1, cut.length()).tell(cut + " \n ", 1, cut.length() + 3);
            }
            Run.says(sentence).tell(ahead + clause);
        }
        // Where it ends is told by n, not by the tape.
        Run.says(sentence).feed("slope 1 1;").due("snow(9)=1 fault()=9").feed("slope 10 1;").due("snow(7)=1 fault()=7");
    }

    private static void cannotStand() {
        String sentence = "1 a TOKEN that can't stand there, or is none";
        for (String clause : CLAUSES) {
            String[] tokens = clause.split(" ");
            int at = 10;
            for (int i = 0; i < tokens.length; i++) {
                for (String other : new String[] {"?", "zzz", "powderz"}) {
                    String was = tokens[i];
                    tokens[i] = other;
                    Run.says(sentence).tell("slope 1 1;" + String.join(" ", tokens), 1, at);
                    tokens[i] = was;
                }
                at += tokens[i].length() + 1;
            }
        }
        Run.says(sentence).tell("slope 1 1 1;", 1, 10).tell("slope -1 1;", 1, 6).tell("slope ;", 1, 6).tell("layer powder", 1, 6)
            .tell("slope 1 1;layer 0 1", 1, 18).tell("slope 1 1;layer 0 slope", 1, 18).tell("slope 1 1;layer 0 crust 1 0 1 -1;", 1, 30)
            .tell("slope 1 1;layer 0 crust 1 0 1 0 0;", 1, 32).tell("hour --1;", 1, 6).tell("hour snow 5;", 1, 5).tell("hour 5 snow rain 5;", 1, 12)
            .tell("hour 5 snow -5;", 1, 12).tell("hour 5 hoar 5;", 1, 12).tell("hour 5 5;", 1, 7).tell("hour 5 -5;", 1, 7)
            .tell("hour 5 snow 5 rain 5;", 1, 14).tell("strong 5;", 1, 7).tell("strong hoar -5;", 1, 12).tell("strong hoar crust 5;", 1, 12)
            .tell("holds;", 1, 5).tell("snow 5;", 1, 0).tell("powder 5;", 1, 0).tell("- slope 1 1;", 1, 0).tell("7 slope 1 1;", 1, 0);
    }

    private static void tooMuch() {
        Run.says("a NUMBER of 5 digits or more, or not as told").tell("slope 00001 1;", 2, 6).tell("slope 1 00000;", 2, 8)
            .tell("stiff hoar 10000;", 2, 11)
            .tell("stiff hoar 09999;", 2, 11).tell("hour 00000;", 2, 5).tell("hour -00001;", 2, 6).tell("hour 1 snow 00001;", 2, 12)
            .tell("layer 00000 crust 1 0 1 0;", 2, 6);
        // Numbers that an int or a long would wrap to a right one.
        for (String great : new String[] {"4294967297", "8589934593", "18446744073709551617", "0000000001", "1" + "0".repeat(300) + "1"}) {
            Run.says("a NUMBER of 5 digits or more, or not as told").tell("slope " + great + " 1;", 2, 6).tell("stiff hoar " + great + ";", 2, 11);
        }
    }

    private static void otherFaults() {
        Run.says("3 a SLOPE that isn't told ahead").tell("layer 0 crust 1 0 1 0;slope 1 1;", 3, 6)
            .tell("slope 1 1;layer 1 crust 1 0 1 0;slope 1 1;", 3, 16)
            .tell("slope 1 1;slope 1 1;slope 1 1;layer 3", 3, 36)
            .tell("slope 1 1;slope 1 1;slope 1 1;layer 2 crust 1 0 1 0;slope 1 1;layer 3 crust 1 0 1 0;")
            .due("slope(2,2)=1 slope(3,2)=1");
        // That a SLOPE was told by an earlier TEXT counts for nothing.
        Run.says("3 a SLOPE that isn't told ahead").tell("slope 1 1;").tell("layer 0 crust 1 0 1 0;", 3, 6);
        for (String word : new String[] {"strong ", "holds ", "stiff "}) {
            for (String kind : KINDS) {
                String told = word + kind + " 1;";
                Run.says("4 a KIND that is told already for that word of the TABLE").tell(told + told, 4, told.length() + word.length())
                    .tell(told + "hour 1;" + word + kind, 4, told.length() + 7 + word.length());
            }
        }
        String all = "";
        for (String kind : KINDS) {
            all += "strong " + kind + " 1;holds " + kind + " 1;stiff " + kind + " 1;";
        }
        Run.says("4 a KIND that is told already for that word of the TABLE").tell(all).tell(all).tell(all + "stiff hoar 1;", 4, all.length() + 6);
        Run.says("5 a DEPTH that is less than ICE and WATER together").tell("slope 1 1;layer 0 crust 99 99 198 0;")
            .tell("slope 1 1;layer 0 crust 99 99 197 0;", 5, 30)
            .tell("slope 1 1;layer 0 crust 1 1 1 0;", 5, 28).tell("slope 1 1;layer 0 crust 2 0 1", 5, 28).tell("slope 1 1;layer 0 crust 2 0 2 0;")
            .tell("slope 1 1;layer 0 crust 1 2 2 0;", 5, 28);
    }

    private static void firstAndLeast() {
        Run.says("FAULTS, the first along the text").tell("slope 91 21;", 2, 6).tell("slope 91 ?", 2, 6).tell("slope ? 91", 1, 6)
            .tell("slope 1 1;layer 0 crust 9 0 8 301;", 5, 28).tell("slope 1 1;layer 0 crust 9 100 8 0;", 2, 26)
            .tell("strong hoar 100;strong hoar 1;", 2, 12)
            .tell("strong hoar 1;strong hoar 100;", 4, 21).tell("layer 0 ice 1 0 1 0;", 3, 6).tell("layer 0 crust 0", 3, 6)
            .tell("slope 1 1?slope 91 1;", 1, 9);
        Run.says("at a TOKEN's first byte").tell("   slope    9999 1;", 2, 12).tell("\nzzz", 1, 1)
            .tell("slope 1 1;\n\nlayer  1 crust 1 0 1 0;", 3, 19)
            .tell("strong hoar 1; strong  hoar 1;", 4, 23).tell("slope 1 1;layer 0 crust 50 50  099 0;", 5, 31);
        // A SLOPE beyond 3 isn't told either; a DEPTH of 0 is less than ICE too; a row of 5 digits can't stand where no NUMBER can.
        Run.says("of one TOKEN the least").tell("layer 4 crust 1 0 1 0;", 2, 6).tell("layer 9999 crust 1 0 1 0;", 2, 6)
            .tell("slope 1 1;layer 0 crust 1 0 0 0;", 2, 28)
            .tell("slope 1 1;layer 0 crust 99 99 00000 0;", 2, 30).tell("12345", 1, 0).tell("slope 1 1 12345;", 1, 10).tell("strong 12345;", 1, 7)
            .tell("hour 5 12345;", 1, 7);
    }

    private static void feed() {
        Run.says("Twenty bytes come behind the tape, of each number the highest first: how many it has")
            .due("feed(0,0,0,0,0)=20 feed(-1,-1,-1,-1,-1)=40 count(14)=40");
        // "slope 12 7;" with the bytes of its numbers the highest first; the second twenty go on where the first end.
        Run.says("Twenty bytes come behind the tape, of each number the highest first: how many it has")
            .due("feed(538976288,538976288,538976288,538997612,1869636896)=20 feed(825368631,991961120,538976288,538976288,538976319)=40")
            .due("snow(39)=0 slope(0,0)=12 slope(0,1)=7");
        Run.says("NONE, and none come, if it would have more than 900").due("44*feed(538976288,538976288,538976288,538976288,538976288)")
.due("count(14)=880 feed(538976288,538976288,538976288,538976288,538976288)=900 3*feed(-1,-1,-1,-1,-1)=-1 count(14)=900 snow(900)=0")
            .due("count(14)=0")
            .due("feed(0,0,0,0,0)=20");
        String whole = "slope 1 1;" + " ".repeat(881) + "hour 10 ;";
        Run.says("A TEXT of at most 900 bytes tells it.").tell(whole).due("count(0)=1 count(1)=1").feed(whole).due("snow(899)=1 fault()=899")
            .feed(whole).due("snow(901)=IAE count(14)=900 count(1)=1");
    }

    private static void snow() {
        Run.says("The tape's first n bytes (it is empty then) are a TEXT").feed("slope 1 1;?").due("snow(10)=0 count(14)=0 snow(1)=IAE count(0)=1")
            .feed("slope 1 1;slope 2 2;").due("snow(0)=0 count(14)=0 count(0)=0").feed("?").due("snow(1)=1 count(14)=0 snow(1)=IAE");
        Run.says("IllegalArgumentException: the tape has not so many, n below 0 (nothing changes).").tell("slope 7 1;").due("snow(1)=IAE")
            .feed("slope 8 1;")
.due("hours(1)=1 note(0,0,1)=1 pit(0)=1 image() snow(21)=IAE snow(-1)=IAE snow(MIN)=IAE snow(MAX)=IAE count(14)=20 count(15)=0")
            .due("fault()=-1 slope(0,0)=7")
            .due("count(2)=1 count(11)=1 count(12)=2 count(13)=1 restore()=1 snow(20)=0 slope(0,0)=8");
    }

    private static void aFault() {
        Run.says("0, or the FAULT (all stays, but STATUS).")
            .tell("slope 50 7;slope 60 8;layer 0 hoar 1 0 10 5;layer 0 crust 4 1 40 6;strong hoar 9;holds crust 50;stiff crust 9;hour -10 snow 3;hour 5 rain 2;")
            .due("hours(1)=1 pit(0)=1 note(1,3,70)=1 dig(1)=3 fall(1,2,4)=0 hours(0)=-1 note(9,9,9)=-1 image()")
            .tell("slope 1 1;layer 0 crust 9 0 9 0;strong hoar 1;holds crust 1;stiff crust 1;hour 1 rain 1;hour 1;hour 1;?", 1, 102)
.due("count(0)=2 count(1)=2 count(2)=1 count(3)=3 count(4)=4 count(5)=4 count(6)=3 count(7)=0 count(8)=0 count(11)=1 count(12)=4")
            .due("count(13)=1 count(14)=0")
.due("count(15)=1 count(16)=1 count(17)=1 slope(0,0)=50 slope(0,1)=7 slope(1,0)=60 slope(1,6)=4 forecast(0,0)=-10 forecast(0,2)=3")
            .due("forecast(1,1)=2")
            .due("pitOf(0,1)=3 layer(0,0,9)=9 undo()=3 undo()=2 count(6)=0 restore()=1 count(12)=4 count(15)=0 undo()=3");
        Run.says("0 TEXTS with a FAULT").tell("?", 1, 0).tell("slope", 1, 5).tell("layer 0", 3, 6).due("count(15)=3 count(16)=0 count(17)=0")
            .tell("slope 1 1;").due("count(15)=3").tell("?", 1, 0).due("count(15)=4");
    }

    private static void allAnew() {
        Run.says("all anew (TIME 0)")
            .tell("slope 50 7;slope 60 8;layer 0 hoar 1 0 10 0;layer 0 crust 4 1 40 6;strong hoar 9;holds hoar 50;stiff hoar 9;hour -10 snow 3;")
            .due("slide(0)=-1 fall(0,1,50)=3 slide(0)=2 dig(0)=0 fall(0,2,4)=0 hours(24)=24 hours(24)=48").tell("slope 9 8;layer 0 hoar 99 0 990 0;")
.due("count(0)=1 count(1)=0 count(2)=0 count(3)=1 count(4)=1 count(5)=0 count(6)=0 count(7)=0 count(8)=0 count(9)=99 count(10)=0")
            .due("slope(0,0)=9 slope(0,1)=8")
.due("slope(0,6)=0 layer(0,0,6)=0 layer(0,0,9)=1 slope(1,0)=NSE forecast(0,0)=NSE hours(1)=1 layer(0,0,3)=984 fall(0,2,50)=1")
            .due("hours(1)=2 slope(0,6)=50");
        // What was asked ahead of it leaves nothing either.
        Run.says("all anew (TIME 0)").tell("slope 50 7;layer 0 hoar 1 0 10 0;layer 0 crust 8 1 40 6;hour 5 rain 3;")
            .due("slide(0)=1 dig(0)=0 pit(0)=1 hours(3)=3 fall(0,1,3)=1 slope(0,6)=9 then(0,9,0) years(3,5,0)")
            .tell("slope 9 8;slope 8 9;layer 1 crust 1 0 2 0;")
            .due("slope(0,6)=0 slope(1,6)=0 slope(0,2)=0 count(2)=0 count(3)=1 count(4)=1 count(5)=0 count(6)=0 count(7)=0 count(8)=0 count(11)=0")
            .due("layer(1,0,6)=0 layer(1,0,5)=0");
        Run.says("PITS, ACTS, what is NOTED, the image are gone.").tell("slope 1 1;").due("pit(0)=1 note(0,0,1)=1 hours(1)=1 image()")
            .tell("slope 1 1;")
            .due("count(11)=0 pitOf(0,0)=NSE count(12)=0 undo()=-1 count(13)=0 falls(2)=1 restore()=0 pit(0)=1 note(0,0,0)=1")
            .tell("").due("count(11)=0 count(12)=0 count(13)=0 restore()=0");
    }

    private static void fault() {
        Run.says("The place of the latest snow()'s FAULT; NONE without.").due("fault()=-1").tell("  ?", 1, 2)
            .due("fault()=2 snow(1)=IAE fault()=2 hours(1)=1 fault()=2")
            .tell("slope", 1, 5).tell("slope 1 1;", 0, -1).due("image()").tell("?", 1, 0).due("restore()=1 fault()=0");
    }
}
