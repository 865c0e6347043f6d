import java.util.Random;

/** Runs of up to 512 calls by seeds, each answer held against the model's. */
public final class ModelTest {
    private static final int RUNS = 3000;
    private static final int LAST_TEXT = 380;
    private static final int[] EXTREMES = {Integer.MIN_VALUE, Integer.MAX_VALUE, -1, -7, 16, 60, 64, 100, 10000};

    private final Random random;
    private final DareBridge x = new DareBridge();
    private final Model m = new Model();
    private final StringBuilder history = new StringBuilder();
    private int calls = 0;

    private ModelTest(long seed) {
        random = new Random(seed);
    }

    public static void main(String[] args) {
        for (int run = 0; run < RUNS; run++) {
            if (!new ModelTest(run).goes(run)) {
                System.exit(1);
            }
        }
        System.out.println(RUNS + " runs go as the model does");
    }

    private boolean goes(int run) {
        boolean right = true;
        int people = random.nextInt(7);
        for (int p = 0; p < people; p++) {
            right &= person(random.nextInt(6));
        }
        // No answer is promised beyond the 512th: a text takes some hundred calls, any other step 28 at the most.
        while (right && calls < 484) {
            right = calls < LAST_TEXT && random.nextInt(12) == 0 ? text() : one(random.nextInt(40));
        }
        if (!right) {
            System.out.println("run " + run + " after\n" + history);
        }
        return right;
    }

    private boolean same(String call, long got, long want) {
        calls++;
        history.append(call).append(" -> ").append(got).append('\n');
        if (got != want) {
            System.out.println(call + " answered " + got + ", the model " + want);
        }
        return got == want;
    }

    private int any(int least, int most) {
        if (random.nextInt(40) == 0) {
            return EXTREMES[random.nextInt(EXTREMES.length)];
        }
        if (random.nextInt(40) == 0) {
            return random.nextBoolean() ? least - 1 : most + 1;
        }
        return least + random.nextInt(most - least + 1);
    }

    private boolean person(int p) {
        int skill = any(0, 9), fear = any(0, 9), pride = any(0, 9);
        boolean wish = random.nextInt(3) == 0;
        return same("person " + p + " " + skill + " " + fear + " " + pride + " " + wish,
            x.person(p, skill, fear, pride, wish), m.person(p, skill, fear, pride, wish));
    }

    /** Says a text that often can be, with at times a sign that is off. */
    private boolean text() {
        boolean right = true;
        if (random.nextInt(3) > 0) {
            right = same("wipe", x.wipe(), m.wipe());
        }
        int events = random.nextInt(9);
        for (int i = 0; i < events && right && calls < LAST_TEXT; i++) {
            String event = ".";
            if (random.nextInt(4) > 0) {
                int p = random.nextInt(6), q = random.nextInt(6);
                int high = m.w.people.containsKey(p) ? m.w.people.get(p).high : 3;
                int h = Math.max(1, Math.min(15, high + m.w.step - random.nextInt(3)));
                event = "" + (char) ('A' + p) + (char) ('A' + q) + h / 10 + h % 10 + "+-*".charAt(random.nextInt(3));
            }
            if (random.nextInt(30) == 0) {
                event = event.substring(random.nextInt(event.length()));
            }
            if (random.nextInt(60) == 0) {
                event += (char) any(33, 126);
            }
            String before = m.pad;
            for (char sign : event.toCharArray()) {
                right &= same("say " + sign, x.say(sign), m.say(sign));
            }
            if (right && random.nextInt(3) > 0 && m.judge(0) >= 0) {
                // What can not be is mostly taken back, or hardly any summer would stand.
                right = same("wipe", x.wipe(), m.wipe());
                for (char sign : before.toCharArray()) {
                    right &= same("say " + sign, x.say(sign), m.say(sign));
                }
            }
        }
        return right && whole();
    }

    private boolean whole() {
        boolean right = same("fault", x.fault(), m.fault());
        for (int what = 0; what < 5; what++) {
            right &= same("judge " + what, x.judge(what), m.judge(what));
        }
        for (int what = 0; what < 2; what++) {
            right &= same("ties " + what, x.ties(what), m.ties(what));
            right &= same("unhurt " + what, x.unhurt(what), m.unhurt(what));
        }
        for (int p = 0; p < 6; p++) {
            int what = random.nextInt(3);
            right &= same("behind " + p + " " + what, x.behind(p, what), m.behind(p, what));
        }
        if (random.nextBoolean()) {
            right &= same("done", x.done(), m.done()) && stands();
        }
        return right;
    }

    private boolean stands() {
        boolean right = true;
        for (int p = 0; p < 6; p++) {
            for (int what = 0; what < 3; what++) {
                right &= same("state " + p + " " + what, x.state(p, what), m.state(p, what));
            }
        }
        for (int what = 0; what < 10; what++) {
            right &= same("told " + what, x.told(what), m.told(what));
        }
        return right;
    }

    private boolean one(int which) {
        int p = any(0, 5), q = any(0, 5), h = any(1, 15), l = any(1, 15), what = any(0, 2);
        String on = " " + p + " " + q + " " + h + " " + l + " " + what;
        switch (which) {
            case 0: return person(p);
            case 1: return random.nextInt(3) > 0 || same("leave " + p, x.leave(p), m.leave(p));
            case 2: return set();
            case 3: return stands();
            case 4: return same("fault", x.fault(), m.fault());
            case 5: return same("judge " + what, x.judge(what), m.judge(what));
            case 6: return same("state " + p + " " + what, x.state(p, what), m.state(p, what));
            case 7: return same("behind " + p + " " + what, x.behind(p, what), m.behind(p, what));
            case 8: return same("done", x.done(), m.done());
            case 9: return same("ties " + what, x.ties(what), m.ties(what));
            case 10: return same("unhurt " + what, x.unhurt(what), m.unhurt(what));
            case 11: return same("odds " + p + " " + h, x.odds(p, h), m.odds(p, h));
            case 12: return same("worth " + p + " " + h + " " + what, x.worth(p, h, what), m.worth(p, h, what));
            case 13: return same("does " + p + " " + h, x.does(p, h), m.does(p, h));
            case 14: return same("nerve " + p + " " + what, x.nerve(p, what), m.nerve(p, what));
            case 15: case 16: case 17:
                return same("climb" + on, x.climb(p, q, h, l, what), m.climb(p, q, h, l, what));
            case 18: case 19: case 20:
                return same("safe" + on, x.safe(p, q, h, l, what), m.safe(p, q, h, l, what));
            case 21: case 22: return law(p, q, h);
            case 23: case 24: case 25:
                return same("game" + on, x.game(p, q, h, l, what), m.game(p, q, h, l, what));
            case 26: return same("enough " + p, x.enough(p), m.enough(p));
            case 27: return same("holds " + p, x.holds(p), m.holds(p));
            case 28: return same("won " + what, x.won(what), m.won(what));
            case 29: return same("refuser " + p + " " + h, x.refuser(p, h), m.refuser(p, h));
            case 30: return same("likely " + p + " " + h, x.likely(p, h), m.likely(p, h));
            case 31: return same("seen " + p + " " + h + " " + what, x.seen(p, h, what), m.seen(p, h, what));
            case 32: return random.nextInt(4) > 0 || same("forget", x.forget(), m.forget());
            case 33: return same("prides " + p + " " + what, x.prides(p, what), m.prides(p, what));
            case 34: case 35: return year();
            case 36: return same("image " + what, x.image(what), m.image(what));
            case 37: return random.nextInt(3) > 0 || same("restore " + what, x.restore(what), m.restore(what));
            case 38: return told();
            default: return same("say " + l, x.say(l), m.say(l));
        }
    }

    private boolean set() {
        int[] most = {9, 9, 99, 9, 42, 1, 9999};
        int[] least = {1, 0, 0, 0, 1, 0, 0};
        int which = random.nextInt(7);
        int v = any(least[which], most[which]);
        int odd = random.nextInt(20) == 0 ? any(-2, 9) : which;
        return same("set " + odd + " " + v, x.set(odd, v), m.set(odd, v));
    }

    private boolean law(int p, int q, int h) {
        int b = any(1, 100);
        int a = b > 0 && b <= 100 ? any(0, b) : any(0, 100);
        return same("law " + p + " " + q + " " + h + " " + a + " " + b, x.law(p, q, h, a, b), m.law(p, q, h, a, b));
    }

    private boolean year() {
        int seed = any(0, 9999), n = any(1, 99), what = any(0, 2);
        return same("year " + seed + " " + n + " " + what, x.year(seed, n, what), m.year(seed, n, what));
    }

    private boolean told() {
        int what = any(0, 64);
        return same("told " + what, x.told(what), m.told(what));
    }
}
