import java.util.Random;

/** Random runs of calls, the same ones every time, on SnowRecorder and on PlainModel. */
public final class ModelTest {
    private final Random random;
    private final SnowRecorder x = new SnowRecorder();
    private final PlainModel m = new PlainModel();
    private final StringBuilder past = new StringBuilder();

    private ModelTest(long seed) {
        random = new Random(seed);
    }

    public static void main(String[] args) {
        int runs = args.length > 0 ? Integer.parseInt(args[0]) : 250;
        long first = args.length > 1 ? Long.parseLong(args[1]) : 1;
        for (long seed = first; seed < first + runs; seed++) {
            ModelTest test = new ModelTest(seed);
            int before = Check.wrong();
            test.run();
            if (Check.wrong() != before) {
                System.out.println("run with seed " + seed + ": " + test.past);
                break;
            }
        }
        new ModelTest(0).manyUnlike();
        Check.finish();
    }

    /** Far more unlike DEPTHS than one FALL can make. */
    private void manyUnlike() {
        StringBuilder t = new StringBuilder("slope 50 5;slope 0 20;");
        for (int i = 0; i < 24; i++) {
            t.append("hour ").append(i % 5 == 0 ? i : -i).append(i % 3 == 0 ? " rain " : " snow ").append(i + 1).append(';');
        }
        int[] all = Check.numbers(t.toString());
        for (int i = 0; i < all.length; i += 5) {
            x.feed(all[i], all[i + 1], all[i + 2], all[i + 3], all[i + 4]);
            m.feed(all[i], all[i + 1], all[i + 2], all[i + 3], all[i + 4]);
        }
        both("snow", x.snow(t.length()), m.snow(t.length()));
        both("look(0)", x.look(0), m.look(0));
        both("look(1)", x.look(1), m.look(1));
        both("hours(7)", x.hours(7), m.hours(7));
        both("look(1)", x.look(1), m.look(1));
        Check.same("many are unlike", m.look(1) > 200 ? 1 : 0, 1);
    }

    private void run() {
        boolean slow = random.nextInt(8) == 0;
        tellText();
        for (int i = 0; i < 200 && Check.wrong() == 0; i++) {
            call(slow);
        }
    }

    private int pick(int least, int most) {
        // Now and then one just outside, and the edges more often than by chance.
        int way = random.nextInt(40);
        if (way == 0) {
            return least - 1;
        }
        if (way == 1) {
            return most + 1;
        }
        if (way == 2) {
            return least;
        }
        if (way == 3) {
            return most;
        }
        return least + random.nextInt(most - least + 1);
    }

    private int within(int least, int most) {
        return least + random.nextInt(most - least + 1);
    }

    private String kind() {
        return PlainModel.KIND_WORDS[random.nextInt(5)];
    }

    private String text() {
        StringBuilder t = new StringBuilder();
        int slopes = within(0, 4);
        for (int i = 0; i < slopes; i++) {
            t.append("slope ").append(within(0, 90)).append(' ').append(within(0, 20)).append(';');
        }
        for (int i = 0; i < 3; i++) {
            if (random.nextInt(3) == 0) {
                t.append("strong ").append(kind()).append(' ').append(within(0, 99)).append(';');
            }
            if (random.nextInt(3) == 0) {
                t.append("holds ").append(kind()).append(' ').append(within(0, 99)).append(';');
            }
            if (random.nextInt(3) == 0) {
                t.append("stiff ").append(kind()).append(' ').append(within(1, 9999)).append(';');
            }
        }
        int layers = slopes == 0 ? 0 : within(0, 14);
        for (int i = 0; i < layers; i++) {
            int ice = within(1, random.nextBoolean() ? 20 : 99);
            int water = random.nextBoolean() ? 0 : within(0, 20);
            t.append("layer ").append(random.nextInt(slopes)).append(' ').append(kind()).append(' ').append(ice)
                .append(' ').append(water).append(' ').append(within(ice + water, ice + water + 300)).append(' ')
                .append(random.nextInt(4) == 0 ? 0 : within(0, 300)).append(";");
        }
        int hours = within(0, random.nextBoolean() ? 5 : 24);
        boolean snowy = random.nextBoolean();
        for (int i = 0; i < hours; i++) {
            t.append("hour ");
            t.append(random.nextInt(3) > 0 ? "-" + within(0, 300) : "" + within(0, 100));
            int fall = random.nextInt(snowy ? 3 : 8);
            t.append(fall == 0 ? " snow " + within(1, 50) : fall == 1 ? " rain " + within(1, 50) : fall == 2 ? " hoar" : "");
            t.append(';');
        }
        return t.length() > 900 ? t.substring(0, 900) : t.toString();
    }

    private String spoiled(String text) {
        StringBuilder t = new StringBuilder(text);
        for (int i = within(0, 2); i > 0 && t.length() > 0; i--) {
            int at = random.nextInt(t.length());
            switch (random.nextInt(4)) {
                case 0:
                    t.deleteCharAt(at);
                    break;
                case 1:
                    t.setCharAt(at, " ;-09az\nA~\0\u00ff".charAt(random.nextInt(12)));
                    break;
                case 2:
                    t.insert(at, random.nextBoolean() ? "1" : " ");
                    break;
                default:
                    t.setLength(at);
                    break;
            }
        }
        return t.length() > 900 ? t.substring(0, 900) : t.toString();
    }

    private void tellText() {
        String t = random.nextInt(4) == 0 ? spoiled(text()) : text();
        past.append("\n[").append(t).append("]");
        int[] all = Check.numbers(t);
        for (int i = 0; i < all.length; i += 5) {
            int at = i;
            both("feed", x.feed(all[at], all[at + 1], all[at + 2], all[at + 3], all[at + 4]),
                m.feed(all[at], all[at + 1], all[at + 2], all[at + 3], all[at + 4]));
        }
        int n = random.nextInt(20) == 0 ? pick(0, t.length()) : t.length();
        both("snow(" + n + ")", Check.of(() -> x.snow(n)), Check.of(() -> m.snow(n)));
        both("fault()", x.fault(), m.fault());
    }

    private void both(String call, long got, long due) {
        past.append(' ').append(call).append('=').append(due);
        Check.same(call, got, due);
    }

    private void call(boolean slow) {
        int slopes = Math.max(1, m.count(0));
        int s = pick(0, slopes - 1);
        int way = random.nextInt(34);
        if (way < 8) {
            act(random.nextInt(9), s);
        } else if (way < 18) {
            plain(way, s);
        } else {
            ask(way, s, slow);
        }
    }

    private void act(int way, int s) {
        if (way <= 2) {
            int n = random.nextInt(3) > 0 ? within(1, 3) : pick(1, 24);
            both("hours(" + n + ")", x.hours(n), m.hours(n));
        } else if (way <= 4) {
            int f = pick(1, 3);
            int n = pick(1, 50);
            both("fall(" + s + "," + f + "," + n + ")", x.fall(s, f, n), m.fall(s, f, n));
        } else if (way == 5) {
            both("dig(" + s + ")", x.dig(s), m.dig(s));
        } else if (way == 6) {
            both("slide(" + s + ")", x.slide(s), m.slide(s));
        } else if (way == 7) {
            both("pit(" + s + ")", x.pit(s), m.pit(s));
        } else {
            both("undo()", x.undo(), m.undo());
        }
    }

    private void plain(int way, int s) {
        if (way == 8) {
            for (int w = -1; w <= 18; w++) {
                int what = w;
                both("count(" + w + ")", Check.of(() -> x.count(what)), Check.of(() -> m.count(what)));
            }
        } else if (way == 9) {
            int h = pick(0, 23);
            int w = pick(0, 2);
            both("forecast(" + h + "," + w + ")", Check.of(() -> x.forecast(h, w)), Check.of(() -> m.forecast(h, w)));
        } else if (way <= 11) {
            for (int w = -1; w <= 10; w++) {
                int what = w;
                both("slope(" + s + "," + w + ")", Check.of(() -> x.slope(s, what)), Check.of(() -> m.slope(s, what)));
            }
        } else if (way <= 14) {
            int l = pick(0, 11);
            for (int w = -1; w <= 12; w++) {
                int what = w;
                both("layer(" + s + "," + l + "," + w + ")", Check.of(() -> x.layer(s, l, what)),
                    Check.of(() -> m.layer(s, l, what)));
            }
        } else if (way == 15) {
            int l = pick(0, 5);
            for (int k = -2; k <= 45; k++) {
                int i = k;
                both("told(" + s + "," + l + "," + i + ")", Check.of(() -> x.told(s, l, i)), Check.of(() -> m.told(s, l, i)));
            }
        } else if (way == 16) {
            int w = random.nextInt(12);
            if (w == 0) {
                x.forget();
                m.forget();
                past.append(" forget()");
            } else if (w == 1) {
                tellText();
            } else if (w <= 4) {
                x.image();
                m.image();
                past.append(" image()");
            } else if (w <= 7) {
                both("restore()", x.restore() ? 1 : 0, m.restore() ? 1 : 0);
            }
        } else {
            int n = pick(0, 47);
            long deep = Check.of(() -> m.then(s, Math.max(0, Math.min(48, n)), 0));
            int d = random.nextInt(3) > 0 && deep >= 0 ? (int) Math.min(deep, 9999) : pick(0, 9999);
            both("note(" + s + "," + n + "," + d + ")", x.note(s, n, d), m.note(s, n, d));
        }
    }

    private void ask(int way, int s, boolean slow) {
        int w = pick(0, 1);
        if (way <= 19) {
            int h = pick(0, 72);
            int what = pick(0, 6);
            both("then(" + s + "," + h + "," + what + ")", Check.of(() -> x.then(s, h, what)), Check.of(() -> m.then(s, h, what)));
        } else if (way == 20) {
            both("once(" + s + "," + w + ")", Check.of(() -> x.once(s, w)), Check.of(() -> m.once(s, w)));
        } else if (way == 21) {
            int n = pick(0, Math.max(0, m.count(4) - 1));
            both("gone(" + n + ")", Check.of(() -> x.gone(n)), Check.of(() -> m.gone(n)));
        } else if (way == 22) {
            both("stands(" + s + "," + w + ")", Check.of(() -> x.stands(s, w)), Check.of(() -> m.stands(s, w)));
        } else if (way == 23) {
            both("toLoad(" + s + ")", Check.of(() -> x.toLoad(s)), Check.of(() -> m.toLoad(s)));
        } else if (way == 24) {
            both("steepest(" + s + ")", Check.of(() -> x.steepest(s)), Check.of(() -> m.steepest(s)));
        } else if (way == 25) {
            int h = pick(1, 24);
            both("toWarm(" + s + "," + h + ")", Check.of(() -> x.toWarm(s, h)), Check.of(() -> m.toWarm(s, h)));
        } else if (way == 26) {
            int h = pick(1, 48);
            both("matters(" + s + "," + h + "," + w + ")", Check.of(() -> x.matters(s, h, w)), Check.of(() -> m.matters(s, h, w)));
        } else if (way == 27) {
            int p = pick(0, 5);
            int what = pick(0, 2);
            both("pitOf(" + p + "," + what + ")", Check.of(() -> x.pitOf(p, what)), Check.of(() -> m.pitOf(p, what)));
        } else if (way <= 29) {
            askPits();
        } else if (way == 30) {
            int h = pick(1, 6);
            int t = pick(0, 10);
            both("odds(" + s + "," + h + "," + t + ")", Check.of(() -> x.odds(s, h, t)), Check.of(() -> m.odds(s, h, t)));
        } else if (way <= 32) {
            int seed = random.nextInt();
            int n = pick(0, 30);
            int what = pick(0, 2);
            both("years(" + seed + "," + n + "," + what + ")", Check.of(() -> x.years(seed, n, what)),
                Check.of(() -> m.years(seed, n, what)));
        } else if (m.count(13) > 0 || slow) {
            askFalls(slow);
        }
    }

    private void askPits() {
        int most = Math.max(0, m.count(11) - 1);
        int p = pick(0, most);
        int o = pick(0, most);
        for (int w = -1; w <= 4; w++) {
            int what = w;
            both("compare(" + p + "," + o + "," + w + ")", Check.of(() -> x.compare(p, o, what)), Check.of(() -> m.compare(p, o, what)));
        }
        both("nearest(" + p + ")", Check.of(() -> x.nearest(p)), Check.of(() -> m.nearest(p)));
    }

    private void askFalls(boolean slow) {
        for (int w = -1; w <= 3; w++) {
            int what = w;
            both("falls(" + w + ")", Check.of(() -> x.falls(what)), Check.of(() -> m.falls(what)));
        }
        for (int w = slow ? -1 : 2; w <= 2; w++) {
            int what = w;
            both("look(" + w + ")", Check.of(() -> x.look(what)), Check.of(() -> m.look(what)));
        }
    }
}
