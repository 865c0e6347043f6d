import java.math.BigInteger;
import java.util.ArrayList;
import java.util.List;
import java.util.TreeMap;

/** The document told a second time, by other means (objects, recursion, big numbers), to hold the class against. */
final class Model {
    static final int UNKNOWN = -1, OUTSIDE = -2, STATE = -3, FULL = -4, NO = -5, NONE = -6;
    static final long GONE = -1000000000000000000L;
    private static final String EVENT = "\\.|[A-F][A-F](0[1-9]|1[0-5])[-+*]";

    static final class Child {
        int skill, fear, pride, high, fame, plaster;
        boolean wish;

        Child copy() {
            Child c = new Child();
            c.skill = skill; c.fear = fear; c.pride = pride; c.high = high;
            c.fame = fame; c.plaster = plaster; c.wish = wish;
            return c;
        }
    }

    static final class World {
        TreeMap<Integer, Child> people = new TreeMap<>();
        int step = 2, start = 3, cost = 20, fade = 1, kept = 6, wet = 0, x = 1;
        List<int[]> sights = new ArrayList<>();

        World copy() {
            World w = new World();
            people.forEach((k, v) -> w.people.put(k, v.copy()));
            w.step = step; w.start = start; w.cost = cost; w.fade = fade; w.kept = kept; w.wet = wet; w.x = x;
            w.sights.addAll(sights);
            return w;
        }

        int odds(int p, int h) {
            double above = h + (wet == 1 ? 5 : 0) - people.get(p).skill;
            return above <= 0 ? 0 : above >= 20 ? 10 : (int) Math.floor(above / 2.0);
        }

        int worth(int p, int h, int pride, boolean done) {
            if (!done) {
                return -(10 * pride * (int) Math.floor(h / 2.0));
            }
            return 10 * pride * h - odds(p, h) * (cost + people.get(p).fear * h);
        }

        boolean does(int p, int h, int pride) {
            return !(worth(p, h, pride, true) < worth(p, h, pride, false));
        }

        boolean does(int p, int h) {
            return does(p, h, people.get(p).pride);
        }

        void doIt(int p, int h) {
            Child c = people.get(p);
            if (h > c.high) c.high = h;
            c.fame += h;
            x = (75 * x + 74) % 65537;
            if (x % 10 < odds(p, h)) c.plaster = kept;
        }

        void night() {
            for (Child c : people.values()) {
                for (int i = 0; i < fade; i++) {
                    if (c.fame > 0) c.fame--; else if (c.fame < 0) c.fame++;
                }
                if (c.plaster > 0) c.plaster--;
            }
        }

        int why(int p, int q, int h) {
            if (p == q || !people.containsKey(p) || !people.containsKey(q)) return 1;
            if (people.get(p).plaster + people.get(q).plaster > 0) return 2;
            if (people.get(p).high + step < h) return 3;
            if (people.get(q).high >= h) return 4;
            return 0;
        }
    }

    World w = new World();
    World[] images = new World[2];
    String pad = "";

    private boolean in(int v, int a, int b) {
        return a <= v && v <= b;
    }

    private boolean there(int p) {
        return w.people.containsKey(p);
    }

    int person(int p, int skill, int fear, int pride, boolean wish) {
        if (p < 0 || p > 5) return UNKNOWN;
        if (!in(skill, 0, 9) || !in(fear, 0, 9) || !in(pride, 0, 9)) return OUTSIDE;
        Child c = new Child();
        c.skill = skill; c.fear = fear; c.pride = pride; c.wish = wish; c.high = w.start;
        w.people.put(p, c);
        return w.people.size();
    }

    int leave(int p) {
        return w.people.remove(p) == null ? UNKNOWN : w.people.size();
    }

    int set(int which, int v) {
        int was;
        if (which == 0 && in(v, 1, 9)) { was = w.step; w.step = v; return was; }
        if (which == 1 && in(v, 0, 9)) { was = w.start; w.start = v; return was; }
        if (which == 2 && in(v, 0, 99)) { was = w.cost; w.cost = v; return was; }
        if (which == 3 && in(v, 0, 9)) { was = w.fade; w.fade = v; return was; }
        if (which == 4 && in(v, 1, 42)) { was = w.kept; w.kept = v; return was; }
        if (which == 5 && in(v, 0, 1)) { was = w.wet; w.wet = v; return was; }
        if (which == 6 && in(v, 0, 9999)) { was = w.x; w.x = v; return was; }
        return OUTSIDE;
    }

    int say(int sign) {
        if (sign <= 32 || sign >= 127) return OUTSIDE;
        if (pad.length() == 60) return FULL;
        pad += (char) sign;
        return pad.length();
    }

    int wipe() {
        int was = pad.length();
        pad = "";
        return was;
    }

    /** A start of the pad can go on if some way of filling it up is a text of events. */
    private boolean canGoOn(String text) {
        for (String rest : new String[] {"", "B01+", "01+", "1+", "0+", "+"}) {
            if ((text + rest).matches("(" + EVENT + ")*")) return true;
        }
        return false;
    }

    int fault() {
        if (pad.matches("(" + EVENT + ")*")) return NONE;
        for (int n = 1; n <= pad.length(); n++) {
            if (!canGoOn(pad.substring(0, n))) return n - 1;
        }
        return pad.length();
    }

    World after;
    int events, why, done, refused, doubled, heights;
    BigInteger up, low;
    TreeMap<Integer, Integer> ties;

    private void goesWell(int p, int h) {
        heights++;
        up = up.multiply(BigInteger.valueOf(10 - after.odds(p, h)));
        low = low.multiply(BigInteger.TEN);
    }

    private int play() {
        if (fault() != NONE) return NO;
        after = w.copy();
        events = why = done = refused = doubled = heights = 0;
        up = low = BigInteger.ONE;
        ties = new TreeMap<>();
        String rest = pad;
        while (!rest.isEmpty()) {
            if (rest.startsWith(".")) {
                after.night();
                rest = rest.substring(1);
            } else {
                int p = "ABCDEF".indexOf(rest.charAt(0)), q = "ABCDEF".indexOf(rest.charAt(1));
                int h = Integer.parseInt(rest.substring(2, 4));
                String how = rest.substring(4, 5);
                rest = rest.substring(5);
                why = after.why(p, q, h);
                if (why != 0) return STATE;
                ties.merge(10 * p + q, 1, Integer::sum);
                if (how.equals("+")) {
                    done++;
                    goesWell(q, h);
                    after.doIt(q, h);
                } else if (how.equals("-")) {
                    refused++;
                    after.people.get(q).fame -= h / 2;
                } else {
                    doubled++;
                    goesWell(p, h);
                    goesWell(q, h);
                    after.doIt(p, h);
                    if (after.people.get(p).plaster == 0) after.doIt(q, h);
                }
            }
            events++;
        }
        return 0;
    }

    int judge(int what) {
        if (!in(what, 0, 4)) return OUTSIDE;
        int t = play();
        if (t == NO) return NO;
        if (what == 0) return t == STATE ? events : NONE;
        if (what == 1) return t == STATE ? why : NONE;
        if (t == STATE) return STATE;
        return what == 2 ? done : what == 3 ? refused : doubled;
    }

    private int of(World world, int p, int what) {
        Child c = world.people.get(p);
        return what == 0 ? c.fame + 1000 : what == 1 ? c.high : c.plaster;
    }

    int state(int p, int what) {
        return !there(p) ? UNKNOWN : !in(what, 0, 2) ? OUTSIDE : of(w, p, what);
    }

    int behind(int p, int what) {
        if (!there(p)) return UNKNOWN;
        if (!in(what, 0, 2)) return OUTSIDE;
        int t = play();
        return t != 0 ? t : of(after, p, what);
    }

    int done() {
        int t = play();
        if (t != 0) return t;
        w = after;
        pad = "";
        return events;
    }

    int ties(int what) {
        if (!in(what, 0, 1)) return OUTSIDE;
        int t = play();
        if (t != 0) return t;
        if (ties.isEmpty()) return NONE;
        int most = ties.values().stream().mapToInt(v -> v).max().getAsInt();
        if (what == 1) return most;
        return ties.entrySet().stream().filter(e -> e.getValue() == most).mapToInt(e -> e.getKey()).min().getAsInt();
    }

    private long part(BigInteger u, BigInteger l, int part) {
        BigInteger g = u.gcd(l);
        return (part == 0 ? u : l).divide(g).longValueExact();
    }

    long unhurt(int part) {
        if (!in(part, 0, 1)) return GONE + OUTSIDE;
        int t = play();
        if (t != 0) return GONE + t;
        return heights > 15 ? GONE + FULL : part(up, low, part);
    }

    private int height(int p, int h) {
        return !there(p) ? UNKNOWN : in(h, 1, 15) ? 0 : OUTSIDE;
    }

    int odds(int p, int h) {
        int r = height(p, h);
        return r != 0 ? r : w.odds(p, h);
    }

    int worth(int p, int h, int what) {
        int r = height(p, h);
        if (r != 0) return r;
        return in(what, 0, 1) ? 1000000 + w.worth(p, h, w.people.get(p).pride, what == 0) : OUTSIDE;
    }

    int does(int p, int h) {
        int r = height(p, h);
        return r != 0 ? r : w.does(p, h) ? 1 : 0;
    }

    int nerve(int p, int what) {
        if (!there(p)) return UNKNOWN;
        if (!in(what, 0, 2)) return OUTSIDE;
        int nerve = 0;
        while (nerve < 15 && w.does(p, nerve + 1)) nerve++;
        if (what == 0) return nerve;
        if (what == 1) return nerve == 15 ? NONE : nerve + 1;
        int sure = 0;
        for (int h = 1; h <= 15; h++) if (w.odds(p, h) == 0) sure = h;
        return sure;
    }

    int climbed, last, refuser;
    BigInteger safeUp, safeLow;

    private void climbOn(int p, int q, int h, int limit) {
        last = h;
        if (!w.does(q, h)) {
            refuser = q;
            return;
        }
        climbed++;
        safeUp = safeUp.multiply(BigInteger.valueOf(10 - w.odds(q, h)));
        safeLow = safeLow.multiply(BigInteger.TEN);
        if (h + w.step <= limit) climbOn(q, p, h + w.step, limit);
    }

    private int climb(int p, int q, int h, int limit) {
        if (!there(p) || !there(q) || p == q) return UNKNOWN;
        if (limit > 15 || limit < 1 || h < 1 || h > limit) return OUTSIDE;
        climbed = 0;
        refuser = NONE;
        safeUp = safeLow = BigInteger.ONE;
        climbOn(p, q, h, limit);
        return 0;
    }

    int climb(int p, int q, int h, int limit, int what) {
        int r = climb(p, q, h, limit);
        if (r != 0) return r;
        return what == 0 ? climbed : what == 1 ? last : what == 2 ? refuser : OUTSIDE;
    }

    long safe(int p, int q, int h, int limit, int part) {
        int r = climb(p, q, h, limit);
        if (r != 0) return GONE + r;
        return in(part, 0, 1) ? part(safeUp, safeLow, part) : GONE + OUTSIDE;
    }

    int law(int p, int q, int h, int a, int b) {
        int r = climb(p, q, h, 15);
        if (r != 0) return r;
        if (!in(b, 1, 100) || !in(a, 0, b)) return OUTSIDE;
        int best = NONE;
        for (int limit = h; limit <= 15; limit++) {
            climb(p, q, h, limit);
            if (safeUp.multiply(BigInteger.valueOf(b)).compareTo(safeLow.multiply(BigInteger.valueOf(a))) >= 0) best = limit;
        }
        return best;
    }

    /** What is done, what it is worth to who is dared, to who dares. */
    private int[] play(int darer, int dared, int h, int limit) {
        int toDared = 0, toDarer = 0;
        if (h + w.step <= limit) {
            int[] next = play(dared, darer, h + w.step, limit);
            toDarer = next[1];
            toDared = next[2];
        }
        int itsPride = w.people.get(dared).pride, darersPride = w.people.get(darer).pride;
        int[] done = {0, w.worth(dared, h, itsPride, true) + toDared, toDarer};
        int[] refused = {1, w.worth(dared, h, itsPride, false), 0};
        int[] met = {2, w.worth(dared, h, itsPride, true) + toDared, w.worth(darer, h, darersPride, true) + toDarer};
        int[] unmet = {2, 5 * itsPride * h, -10 * darersPride * h};
        int[] doubled = met[2] >= unmet[2] ? met : unmet;
        int[] best = done;
        if (refused[1] > best[1]) best = refused;
        if (doubled[1] > best[1]) best = doubled;
        return best;
    }

    int game(int p, int q, int h, int limit, int what) {
        int r = climb(p, q, h, limit);
        if (r != 0) return r;
        if (!in(what, 0, 2)) return OUTSIDE;
        int[] got = play(p, q, h, limit);
        return what == 0 ? got[0] : 1000000 + got[what];
    }

    private int joined(int bits) {
        int n = Integer.bitCount(bits), next = bits;
        for (var e : w.people.entrySet()) {
            if (!e.getValue().wish && e.getValue().pride / 2 <= n) next |= 1 << e.getKey();
        }
        return next == bits ? bits : joined(next);
    }

    int enough(int p) {
        return there(p) ? joined(1 << p) : UNKNOWN;
    }

    int holds(int p) {
        return !there(p) ? UNKNOWN : Integer.bitCount(joined(1 << p)) > w.people.size() / 2.0 ? 1 : 0;
    }

    int won(int what) {
        if (!in(what, 0, 1)) return OUTSIDE;
        for (int n = 1; n <= 6; n++) {
            for (int bits = 1; bits < 64; bits++) {
                boolean free = Integer.bitCount(bits) == n;
                for (int p = 0; p < 6; p++) {
                    if ((bits >> p & 1) == 1 && (!there(p) || w.people.get(p).wish)) free = false;
                }
                if (free && Integer.bitCount(joined(bits)) > w.people.size() / 2.0) return what == 0 ? n : bits;
            }
        }
        return NONE;
    }

    int refuser(int p, int h) {
        int r = height(p, h);
        if (r != 0) return r;
        for (var e : w.people.entrySet()) {
            Child c = e.getValue();
            if (e.getKey() != p && c.plaster == 0 && c.high < h && !w.does(e.getKey(), h)) return e.getKey();
        }
        return NONE;
    }

    int likely(int p, int h) {
        int r = height(p, h);
        if (r != 0) return r;
        int n = 0;
        for (int pride = 0; pride < 10; pride++) n += w.does(p, h, pride) ? 1 : 0;
        return n;
    }

    int seen(int p, int h, int did) {
        int r = height(p, h);
        if (r != 0) return r;
        if (!in(did, 0, 1)) return OUTSIDE;
        if (w.sights.size() == 6) return FULL;
        w.sights.add(new int[] {p, h, did});
        return w.sights.size();
    }

    int forget() {
        int were = w.sights.size();
        w.sights = new ArrayList<>();
        return were;
    }

    int prides(int p, int what) {
        if (!there(p)) return UNKNOWN;
        if (!in(what, 0, 2)) return OUTSIDE;
        List<Integer> fit = new ArrayList<>();
        for (int pride = 0; pride < 10; pride++) {
            int as = pride;
            if (w.sights.stream().allMatch(s -> s[0] != p || w.does(p, s[1], as) == (s[2] == 1))) fit.add(pride);
        }
        if (what == 0) return fit.size();
        return fit.isEmpty() ? NONE : what == 1 ? fit.get(0) : fit.get(fit.size() - 1);
    }

    int year(int seed, int n, int what) {
        if (!in(seed, 0, 9999) || !in(n, 1, 99) || !in(what, 0, 2)) return OUTSIDE;
        World t = w.copy();
        int y = seed;
        int[] count = new int[3];
        for (int i = 0; i < n; i++) {
            y = (75 * y + 74) % 65537;
            int p = y % 6, q = y / 6 % 6;
            int h = t.people.containsKey(p) ? Math.min(15, t.people.get(p).high + t.step) : 1;
            if (t.why(p, q, h) == 0) {
                if (t.does(q, h)) {
                    count[0]++;
                    t.doIt(q, h);
                    if (t.people.get(q).plaster > 0) count[2]++;
                } else {
                    count[1]++;
                }
            }
            if (i % 3 == 2) t.night();
        }
        return count[what];
    }

    int image(int n) {
        if (!in(n, 0, 1)) return OUTSIDE;
        images[n] = w.copy();
        return 1;
    }

    int restore(int n) {
        if (!in(n, 0, 1)) return OUTSIDE;
        if (images[n] == null) return STATE;
        w = images[n].copy();
        return 1;
    }

    int told(int what) {
        switch (what) {
            case 0: return pad.length();
            case 1: return w.people.keySet().stream().mapToInt(p -> 1 << p).sum();
            case 2: return w.step;
            case 3: return w.start;
            case 4: return w.cost;
            case 5: return w.fade;
            case 6: return w.kept;
            case 7: return w.wet;
            case 8: return w.x;
            case 9: return w.sights.size();
            default:
        }
        for (int p = 0; p < 6; p++) {
            if (!there(p)) continue;
            Child c = w.people.get(p);
            if (what == 10 * (1 + p)) return c.skill;
            if (what == 10 * (1 + p) + 1) return c.fear;
            if (what == 10 * (1 + p) + 2) return c.pride;
            if (what == 10 * (1 + p) + 3) return c.wish ? 1 : 0;
        }
        return OUTSIDE;
    }
}
