/** Promises 3 and 4: texts and their faults, each with the place that is due. */
public final class FaultsTest {
    public static void main(String[] args) {
        rightTexts();
        misplaced();
        tooMuch();
        untoldSlopes();
        toldAlready();
        tooShallow();
        theFirstAndTheLeast();
        Check.finish();
    }

    private static SnowRecorder due(String text, int code, int place) {
        SnowRecorder x = new SnowRecorder();
        Check.same("snow of [" + text + "]", Check.tell(x, text), code);
        Check.same("fault() of [" + text + "]", x.fault(), place);
        Check.same("count(15) of [" + text + "]", x.count(15), code == 0 ? 0 : 1);
        Check.same("count(14) of [" + text + "]", x.count(14), 0);
        return x;
    }

    private static void right(String text) {
        due(text, 0, -1);
    }

    private static String times(int n, String text) {
        return text.repeat(n);
    }

    private static void rightTexts() {
        right("");
        right(" \n ");
        right("slope 0 0;slope 90 20;slope 45 10;slope 1 1;");
        right("slope50 10;");
        right("slope 0050 0010 ; layer 0 hoar 99 99 198 300\n;");
        right("hour -300;hour - 0;hour 100;hour-300 snow 50;hour 0rain 1;hour 5 hoar;");
        right("strong powder 0;strong hoar 99;holds powder 0;holds crust 99;stiff facets 1;stiff grains 9999;");
        right("slope 1 1;" + times(12, "layer 0 powder 1 0 1 0;"));
        right(times(24, "hour 1;"));
        SnowRecorder x = due("hour -0;hour 7 hoar;hour -12 rain 3;", 0, -1);
        Check.same("AIR 0", x.forecast(0, 0), 0);
        Check.same("AIR 7", x.forecast(1, 0), 7);
        Check.same("HOAR", x.forecast(1, 1), 3);
        Check.same("MUCH of HOAR", x.forecast(1, 2), 0);
        Check.same("AIR -12", x.forecast(2, 0), -12);
        Check.same("no FALL", x.forecast(0, 1), 0);
    }

    private static void misplaced() {
        due(";", 1, 0);
        due("snow;", 1, 0);
        due("  slopes 1 1;", 1, 2);
        due("Slope 1 1;", 1, 0);
        due("zlope 1 1;", 1, 0);
        due("slopz 1 1;", 1, 0);
        due("slopez 1 1;", 1, 0);
        due("slo pe 1 1;", 1, 0);
        due("slope", 1, 5);
        due("slope 1 ", 1, 8);
        due("slope 1 1", 1, 9);
        due("slope 1 1  ", 1, 11);
        due("slope 1;", 1, 7);
        due("slope 1 1 1;", 1, 10);
        due("slope -1 1;", 1, 6);
        due("slope\t1 1;", 1, 5);
        due("slope 1 1;\u00ff", 1, 10);
        due("slope 1 1\r;", 1, 9);
        due("slope 1 1;layer 0 ice 1 0 1 0;", 1, 18);
        due("slope 1 1;layer powder 1 0 1 0;", 1, 16);
        due("slope 1 1;layer 0 powder 1 0 1;", 1, 30);
        due("slope 1 1;layer 0 powder 1 0 1 -5;", 1, 31);
        due("hour --5;", 1, 6);
        due("hour ;", 1, 5);
        due("hour - ;", 1, 7);
        due("hour 5 snow;", 1, 11);
        due("hour 5 hoar 1;", 1, 12);
        due("hour 5 powder;", 1, 7);
        due("hour 5 snow -1;", 1, 12);
        due("strong 5;", 1, 7);
        due("strong powder;", 1, 13);
        due("1;", 1, 0);
        due("12345;", 1, 0);
        due("hour 5 12345;", 1, 7);
    }

    private static void tooMuch() {
        due("slope 91 0;", 2, 6);
        due("slope 90 21;", 2, 9);
        due("slope 900 1;", 2, 6);
        due("slope 90 2000;", 2, 9);
        due("hour 1000;", 2, 5);
        due("layer 30 powder 1 0 1 0;", 2, 6);
        due("slope 00001 1;", 2, 6);
        due("slope 12345", 2, 6);
        due(times(4, "slope 1 1;") + "slope", 2, 40);
        due(times(4, "slope 1 1;") + " slope 99;", 2, 41);
        due(times(24, "hour 1;") + "hour 1;", 2, 168);
        due("layer 4 powder 1 0 1 0;", 2, 6);
        due("slope 1 1;layer 0 powder 0 0 1 0;", 2, 25);
        due("slope 1 1;layer 0 powder 100 0 1 0;", 2, 25);
        due("slope 1 1;layer 0 powder 1 100 1 0;", 2, 27);
        due("slope 1 1;layer 0 powder 1 0 0 0;", 2, 29);
        due("slope 1 1;layer 0 powder 1 0 1000 0;", 2, 29);
        due("slope 1 1;layer 0 powder 1 0 1 301;", 2, 31);
        due("slope 1 1;" + times(13, "layer 0 powder 1 0 1 0;"), 2, 10 + 12 * 23 + 6);
        due("hour 101;", 2, 5);
        due("hour -301;", 2, 6);
        due("hour 5 snow 0;", 2, 12);
        due("hour 5 rain 51;", 2, 12);
        due("strong powder 100;", 2, 14);
        due("holds powder 100;", 2, 13);
        due("stiff powder 0;", 2, 13);
        due("stiff powder 10000;", 2, 13);
    }

    private static void untoldSlopes() {
        due("layer 0 powder 1 0 1 0;", 3, 6);
        due("slope 1 1;layer 1 powder 1 0 1 0;slope 1 1;", 3, 16);
        due("slope 1 1;layer 3 powder", 3, 16);
        right("slope 1 1;layer 0 powder 1 0 1 0;slope 1 1;layer 1 powder 1 0 1 0;");
    }

    private static void toldAlready() {
        due("strong powder 1;strong powder 1;", 4, 23);
        due("holds hoar 1;strong hoar 1;holds hoar", 4, 33);
        due("stiff crust 1;stiff crust 99999;", 4, 20);
        right("strong powder 1;holds powder 1;stiff powder 1;strong grains 1;");
    }

    private static void tooShallow() {
        due("slope 1 1;layer 0 powder 5 5 9 0;", 5, 29);
        due("slope 1 1;layer 0 powder 5 0 4 999;", 5, 29);
        right("slope 1 1;layer 0 powder 5 5 10 0;");
    }

    private static void theFirstAndTheLeast() {
        due("slope 91 99;", 2, 6);
        due("slope 91 ?", 2, 6);
        due("slope ? 91", 1, 6);
        due("slope 1 1;layer 0 powder 99 99 0 0;", 2, 31);
        SnowRecorder x = Check.on("slope 10 5;layer 0 powder 1 0 10 0;hour 5;strong hoar 9;");
        x.pit(0);
        x.note(0, 0, 0);
        x.hours(3);
        x.image();
        Check.same("a FAULT", Check.tell(x, "slope 1 1;slope 1 1;oh"), 1);
        int[] all = {1, 1, 3, 1, 1, 0, 0, 0, 0, 1, 0, 1, 2, 1, 0, 1, 0, 0};
        for (int what = 0; what < all.length; what++) {
            Check.same("count(" + what + ") behind a FAULT", x.count(what), all[what]);
        }
        Check.same("the image stays", x.restore() ? 1 : 0, 1);
        Check.same("STATUS is the IMAGE's", x.count(15), 0);
        Check.same("fault() isn't the IMAGE's", x.fault(), 20);
        Check.same("undo()", x.undo(), 1);
    }
}
