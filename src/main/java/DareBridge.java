/** I dare you: over the wall, up the spire, along the top of the bridge. ../shared/DOC.md tells what every call answers. */
public final class DareBridge {
    public static final int UNKNOWN = -1, OUTSIDE = -2, STATE = -3, FULL = -4, NO = -5, NONE = -6;
    public static final long GONE = -1000000000000000000L;

    private static final int PEOPLE = 6;
    private static final int TOP = 15;
    private static final int SIGNS = 60;
    private static final int SIGHTS = 6;
    private static final int PRIDEST = 9;
    private static final int DARE_SIGNS = 5;
    private static final int HEIGHTS_RECKONED = 15;
    private static final int ABOVE_FAME = 1000;
    private static final int ABOVE_WORTH = 1000000;

    private static final int STEP = 0;
    private static final int START = 1;
    private static final int COST = 2;
    private static final int FADE = 3;
    private static final int KEPT = 4;
    private static final int WET = 5;
    private static final int DRAW = 6;
    private static final int RULES = 7;
    private static final int[] RULE_FIRST = {2, 3, 20, 1, 6, 0, 1};
    private static final int[] RULE_LEAST = {1, 0, 0, 0, 1, 0, 0};
    private static final int[] RULE_MOST = {9, 9, 99, 9, 42, 1, 9999};

    private final Town now = new Town();
    private final Town firstImage = new Town();
    private final Town secondImage = new Town();
    private boolean firstKept = false;
    private boolean secondKept = false;
    private final Pad pad = new Pad();
    private final Summer summer = new Summer();
    private final Climb climbing = new Climb();
    private final Game doubling = new Game();
    private final Year years = new Year();

    public DareBridge() {
    }

    // ---- 1 people, summers

    public int person(int person, int skill, int fear, int pride, boolean wish) {
        if (!within(person, 0, PEOPLE - 1)) {
            return UNKNOWN;
        }
        if (!within(skill, 0, 9) || !within(fear, 0, 9) || !within(pride, 0, PRIDEST)) {
            return OUTSIDE;
        }
        now.come(person, skill, fear, pride, wish ? 1 : 0);
        return Integer.bitCount(now.bits());
    }

    public int leave(int person) {
        if (!now.isThere(person)) {
            return UNKNOWN;
        }
        now.go(person);
        return Integer.bitCount(now.bits());
    }

    public int set(int which, int v) {
        if (!within(which, 0, RULES - 1) || !within(v, at(RULE_LEAST, which), at(RULE_MOST, which))) {
            return OUTSIDE;
        }
        int was = now.rule(which);
        put(now.rules, which, v);
        return was;
    }

    public int say(int sign) {
        if (!within(sign, 33, 126)) {
            return OUTSIDE;
        }
        return pad.add(sign) ? pad.count : FULL;
    }

    public int wipe() {
        int was = pad.count;
        pad.clear();
        return was;
    }

    public int fault() {
        return pad.faultAt();
    }

    // ---- 2 summers

    public int judge(int what) {
        if (!within(what, 0, 4)) {
            return OUTSIDE;
        }
        int trouble = playSummer();
        if (trouble == NO || trouble == STATE && what >= 2) {
            return trouble;
        }
        switch (what) {
            case 0: return trouble == STATE ? summer.events : NONE;
            case 1: return trouble == STATE ? summer.why : NONE;
            case 2: return summer.done;
            case 3: return summer.refused;
            default: return summer.doubled;
        }
    }

    public int state(int person, int what) {
        if (!now.isThere(person)) {
            return UNKNOWN;
        }
        return within(what, 0, 2) ? now.standing(person, what) : OUTSIDE;
    }

    public int behind(int person, int what) {
        if (!now.isThere(person)) {
            return UNKNOWN;
        }
        if (!within(what, 0, 2)) {
            return OUTSIDE;
        }
        int trouble = playSummer();
        return trouble != 0 ? trouble : summer.after.standing(person, what);
    }

    public int done() {
        int trouble = playSummer();
        if (trouble != 0) {
            return trouble;
        }
        now.copyFrom(summer.after);
        pad.clear();
        return summer.events;
    }

    public int ties(int what) {
        if (!within(what, 0, 1)) {
            return OUTSIDE;
        }
        int trouble = playSummer();
        if (trouble != 0) {
            return trouble;
        }
        int two = summer.closest();
        if (two < 0) {
            return NONE;
        }
        return what == 0 ? two / PEOPLE * 10 + two % PEOPLE : at(summer.ties, two);
    }

    public long unhurt(int part) {
        if (!within(part, 0, 1)) {
            return GONE + OUTSIDE;
        }
        int trouble = playSummer();
        if (trouble != 0) {
            return GONE + trouble;
        }
        return summer.heights > HEIGHTS_RECKONED ? GONE + FULL : summer.luck.lowest(part);
    }

    // ---- 3 worth, climbs, games

    public int odds(int person, int height) {
        int refusal = refusalOfHeight(person, height);
        return refusal != 0 ? refusal : now.oddsOf(person, height);
    }

    public int worth(int person, int height, int what) {
        int refusal = refusalOfHeight(person, height);
        if (refusal != 0) {
            return refusal;
        }
        if (!within(what, 0, 1)) {
            return OUTSIDE;
        }
        int pride = now.prideOf(person);
        return ABOVE_WORTH + (what == 0 ? now.worthDone(person, height, pride) : Town.worthRefused(height, pride));
    }

    public int does(int person, int height) {
        int refusal = refusalOfHeight(person, height);
        if (refusal != 0) {
            return refusal;
        }
        return now.dares(person, height, now.prideOf(person)) ? 1 : 0;
    }

    public int nerve(int person, int what) {
        if (!now.isThere(person)) {
            return UNKNOWN;
        }
        if (!within(what, 0, 2)) {
            return OUTSIDE;
        }
        if (what == 2) {
            return now.surest(person);
        }
        int refused = now.leastRefused(person);
        if (what == 1) {
            return refused > TOP ? NONE : refused;
        }
        return refused - 1;
    }

    public int climb(int person, int other, int height, int limit, int what) {
        int refusal = refusalOfClimb(person, other, height, limit);
        if (refusal != 0) {
            return refusal;
        }
        if (!within(what, 0, 2)) {
            return OUTSIDE;
        }
        climbing.go(now, person, other, height, limit);
        switch (what) {
            case 0: return climbing.done;
            case 1: return climbing.last;
            default: return climbing.refuser;
        }
    }

    public long safe(int person, int other, int height, int limit, int part) {
        int refusal = refusalOfClimb(person, other, height, limit);
        if (refusal != 0) {
            return GONE + refusal;
        }
        if (!within(part, 0, 1)) {
            return GONE + OUTSIDE;
        }
        climbing.go(now, person, other, height, limit);
        return climbing.luck.lowest(part);
    }

    public int law(int person, int other, int height, int a, int b) {
        int refusal = refusalOfClimb(person, other, height, TOP);
        if (refusal != 0) {
            return refusal;
        }
        if (!within(b, 1, 100) || !within(a, 0, b)) {
            return OUTSIDE;
        }
        for (int limit = TOP; limit >= height; limit--) {
            climbing.go(now, person, other, height, limit);
            if (climbing.luck.isAtLeast(a, b)) {
                return limit;
            }
        }
        return NONE;
    }

    public int game(int person, int other, int height, int limit, int what) {
        int refusal = refusalOfClimb(person, other, height, limit);
        if (refusal != 0) {
            return refusal;
        }
        if (!within(what, 0, 2)) {
            return OUTSIDE;
        }
        doubling.solve(now, person, other, height, limit);
        switch (what) {
            case 0: return doubling.choice;
            case 1: return ABOVE_WORTH + doubling.toDared;
            default: return ABOVE_WORTH + doubling.toDarer;
        }
    }

    // ---- 4 enough, prides

    public int enough(int person) {
        return now.isThere(person) ? now.joined(1 << person) : UNKNOWN;
    }

    public int holds(int person) {
        if (!now.isThere(person)) {
            return UNKNOWN;
        }
        return now.isMost(now.joined(1 << person)) ? 1 : 0;
    }

    public int won(int what) {
        if (!within(what, 0, 1)) {
            return OUTSIDE;
        }
        int fewest = now.fewestToHold();
        if (fewest == 0) {
            return NONE;
        }
        return what == 0 ? Integer.bitCount(fewest) : fewest;
    }

    public int refuser(int person, int height) {
        int refusal = refusalOfHeight(person, height);
        if (refusal != 0) {
            return refusal;
        }
        for (int p = 0; p < PEOPLE; p++) {
            if (p != person && now.wouldRefuse(p, height)) {
                return p;
            }
        }
        return NONE;
    }

    public int likely(int person, int height) {
        int refusal = refusalOfHeight(person, height);
        if (refusal != 0) {
            return refusal;
        }
        int prides = 0;
        for (int pride = 0; pride <= PRIDEST; pride++) {
            if (now.dares(person, height, pride)) {
                prides++;
            }
        }
        return prides;
    }

    public int seen(int person, int height, int did) {
        int refusal = refusalOfHeight(person, height);
        if (refusal != 0) {
            return refusal;
        }
        if (!within(did, 0, 1)) {
            return OUTSIDE;
        }
        return now.see(person, height, did) ? now.sights : FULL;
    }

    public int forget() {
        int were = now.sights;
        now.sights = 0;
        return were;
    }

    public int prides(int person, int what) {
        if (!now.isThere(person)) {
            return UNKNOWN;
        }
        if (!within(what, 0, 2)) {
            return OUTSIDE;
        }
        int many = 0;
        int least = NONE;
        int greatest = NONE;
        for (int pride = 0; pride <= PRIDEST; pride++) {
            if (now.fitsSights(person, pride)) {
                least = many == 0 ? pride : least;
                greatest = pride;
                many++;
            }
        }
        if (what == 0) {
            return many;
        }
        return what == 1 ? least : greatest;
    }

    public int year(int seed, int n, int what) {
        if (!within(seed, 0, at(RULE_MOST, DRAW)) || !within(n, 1, 99) || !within(what, 0, 2)) {
            return OUTSIDE;
        }
        years.pass(now, seed, n);
        switch (what) {
            case 0: return years.done;
            case 1: return years.refused;
            default: return years.hurt;
        }
    }

    public int image(int n) {
        if (!within(n, 0, 1)) {
            return OUTSIDE;
        }
        if (n == 0) {
            firstImage.copyFrom(now);
            firstKept = true;
        } else {
            secondImage.copyFrom(now);
            secondKept = true;
        }
        return 1;
    }

    public int restore(int n) {
        if (!within(n, 0, 1)) {
            return OUTSIDE;
        }
        if (n == 0 ? !firstKept : !secondKept) {
            return STATE;
        }
        now.copyFrom(n == 0 ? firstImage : secondImage);
        return 1;
    }

    public int told(int what) {
        if (what == 0) {
            return pad.count;
        }
        if (what == 1) {
            return now.bits();
        }
        if (within(what, 2, 8)) {
            return now.rule(what - 2);
        }
        if (what == 9) {
            return now.sights;
        }
        return what < 10 ? OUTSIDE : trait(what / 10 - 1, what % 10);
    }

    // ---- what the calls share

    private int trait(int person, int which) {
        if (!now.isThere(person)) {
            return OUTSIDE;
        }
        switch (which) {
            case 0: return at(now.skill, person);
            case 1: return at(now.fear, person);
            case 2: return at(now.pride, person);
            case 3: return at(now.wish, person);
            default: return OUTSIDE;
        }
    }

    /** 0 if the text is a summer that can be; what came of it stands in summer then. */
    private int playSummer() {
        if (pad.faultAt() != NONE) {
            return NO;
        }
        summer.play(pad, now);
        return summer.why != 0 ? STATE : 0;
    }

    private int refusalOfHeight(int person, int height) {
        if (!now.isThere(person)) {
            return UNKNOWN;
        }
        return within(height, 1, TOP) ? 0 : OUTSIDE;
    }

    private int refusalOfClimb(int person, int other, int height, int limit) {
        if (!now.isThere(person) || !now.isThere(other) || person == other) {
            return UNKNOWN;
        }
        return within(limit, 1, TOP) && within(height, 1, limit) ? 0 : OUTSIDE;
    }

    private static boolean within(int number, int least, int most) {
        return number >= least && number <= most;
    }

    // No row is read or written but by these, so that no index is ever outside.

    private static int at(int[] row, int i) {
        return row != null && i >= 0 && i < row.length ? row[i] : 0;
    }

    private static void put(int[] row, int i, int v) {
        if (row != null && i >= 0 && i < row.length) {
            row[i] = v;
        }
    }

    private static void copyRow(int[] from, int[] to) {
        for (int i = 0; to != null && i < to.length; i++) {
            put(to, i, at(from, i));
        }
    }

    private static int drawAfter(int draw) {
        return (75 * draw + 74) % 65537;
    }

    /** The people, what is set and what was seen: all that an image keeps. */
    private static final class Town {
        final int[] rules = new int[RULES];
        final int[] there = new int[PEOPLE];
        final int[] skill = new int[PEOPLE];
        final int[] fear = new int[PEOPLE];
        final int[] pride = new int[PEOPLE];
        final int[] wish = new int[PEOPLE];
        final int[] high = new int[PEOPLE];
        final int[] fame = new int[PEOPLE];
        final int[] plaster = new int[PEOPLE];
        final int[] sightOf = new int[SIGHTS];
        final int[] sightHeight = new int[SIGHTS];
        final int[] sightDid = new int[SIGHTS];
        int sights = 0;

        Town() {
            copyRow(RULE_FIRST, rules);
        }

        void copyFrom(Town other) {
            if (other == null) {
                return;
            }
            copyRow(other.rules, rules);
            copyRow(other.there, there);
            copyRow(other.skill, skill);
            copyRow(other.fear, fear);
            copyRow(other.pride, pride);
            copyRow(other.wish, wish);
            copyRow(other.high, high);
            copyRow(other.fame, fame);
            copyRow(other.plaster, plaster);
            copyRow(other.sightOf, sightOf);
            copyRow(other.sightHeight, sightHeight);
            copyRow(other.sightDid, sightDid);
            sights = other.sights;
        }

        int rule(int which) {
            return at(rules, which);
        }

        boolean isThere(int person) {
            return at(there, person) == 1;
        }

        int bits() {
            int bits = 0;
            for (int p = 0; p < PEOPLE; p++) {
                bits |= at(there, p) << p;
            }
            return bits;
        }

        void come(int person, int itsSkill, int itsFear, int itsPride, int itsWish) {
            put(there, person, 1);
            put(skill, person, itsSkill);
            put(fear, person, itsFear);
            put(pride, person, itsPride);
            put(wish, person, itsWish);
            put(high, person, at(rules, START));
            put(fame, person, 0);
            put(plaster, person, 0);
        }

        void go(int person) {
            put(there, person, 0);
        }

        int standing(int person, int what) {
            switch (what) {
                case 0: return at(fame, person) + ABOVE_FAME;
                case 1: return at(high, person);
                default: return at(plaster, person);
            }
        }

        int oddsOf(int person, int height) {
            int above = height + 5 * at(rules, WET) - at(skill, person);
            return Math.max(0, Math.min(10, above / 2));
        }

        int prideOf(int person) {
            return at(pride, person);
        }

        int worthDone(int person, int height, int itsPride) {
            int harm = at(rules, COST) + at(fear, person) * height;
            return 10 * itsPride * height - oddsOf(person, height) * harm;
        }

        static int worthRefused(int height, int itsPride) {
            return -10 * itsPride * (height / 2);
        }

        boolean dares(int person, int height, int itsPride) {
            return worthDone(person, height, itsPride) >= worthRefused(height, itsPride);
        }

        /** One above the top if it refuses none. */
        int leastRefused(int person) {
            for (int height = 1; height <= TOP; height++) {
                if (!dares(person, height, at(pride, person))) {
                    return height;
                }
            }
            return TOP + 1;
        }

        int surest(int person) {
            for (int height = TOP; height >= 1; height--) {
                if (oddsOf(person, height) == 0) {
                    return height;
                }
            }
            return 0;
        }

        /** Why a dare can not be, as the document numbers it; 0 if it can. */
        int whyNot(int darer, int dared, int height) {
            if (!isThere(darer) || !isThere(dared) || darer == dared) {
                return 1;
            }
            if (at(plaster, darer) > 0 || at(plaster, dared) > 0) {
                return 2;
            }
            if (height > at(high, darer) + at(rules, STEP)) {
                return 3;
            }
            return height <= at(high, dared) ? 4 : 0;
        }

        /** Whether it came into plaster by it. */
        boolean perform(int person, int height) {
            put(high, person, Math.max(at(high, person), height));
            put(fame, person, at(fame, person) + height);
            int draw = drawAfter(at(rules, DRAW));
            put(rules, DRAW, draw);
            if (draw % 10 >= oddsOf(person, height)) {
                return false;
            }
            put(plaster, person, at(rules, KEPT));
            return true;
        }

        void refuse(int person, int height) {
            put(fame, person, at(fame, person) - height / 2);
        }

        void night() {
            int fade = at(rules, FADE);
            for (int p = 0; p < PEOPLE; p++) {
                int was = at(fame, p);
                put(fame, p, was > 0 ? Math.max(0, was - fade) : Math.min(0, was + fade));
                put(plaster, p, Math.max(0, at(plaster, p) - 1));
            }
        }

        boolean wouldRefuse(int person, int height) {
            return isThere(person) && at(plaster, person) == 0 && at(high, person) < height
                && !dares(person, height, at(pride, person));
        }

        /** Who has said enough in the end, if those of the bits say it first. */
        int joined(int bits) {
            int said = bits;
            for (int round = 0; round < PEOPLE; round++) {
                said = joinedInRound(said);
            }
            return said;
        }

        private int joinedInRound(int said) {
            int ahead = Integer.bitCount(said);
            int next = said;
            for (int p = 0; p < PEOPLE; p++) {
                if (isThere(p) && at(wish, p) == 0 && at(pride, p) / 2 <= ahead) {
                    next |= 1 << p;
                }
            }
            return next;
        }

        boolean isMost(int said) {
            return 2 * Integer.bitCount(said) > Integer.bitCount(bits());
        }

        /** As bits; 0 if there are none. */
        int fewestToHold() {
            int free = 0;
            for (int p = 0; p < PEOPLE; p++) {
                if (isThere(p) && at(wish, p) == 0) {
                    free |= 1 << p;
                }
            }
            int best = 0;
            for (int bits = 1; bits < 1 << PEOPLE; bits++) {
                boolean fewer = best == 0 || Integer.bitCount(bits) < Integer.bitCount(best);
                if ((bits & ~free) == 0 && fewer && isMost(joined(bits))) {
                    best = bits;
                }
            }
            return best;
        }

        boolean see(int person, int height, int did) {
            if (sights >= SIGHTS) {
                return false;
            }
            put(sightOf, sights, person);
            put(sightHeight, sights, height);
            put(sightDid, sights, did);
            sights++;
            return true;
        }

        boolean fitsSights(int person, int itsPride) {
            for (int i = 0; i < sights; i++) {
                boolean did = at(sightDid, i) == 1;
                if (at(sightOf, i) == person && dares(person, at(sightHeight, i), itsPride) != did) {
                    return false;
                }
            }
            return true;
        }
    }

    /** The text of a summer. */
    private static final class Pad {
        final int[] signs = new int[SIGNS];
        int count = 0;

        boolean add(int sign) {
            if (count >= SIGNS) {
                return false;
            }
            put(signs, count, sign);
            count++;
            return true;
        }

        void clear() {
            count = 0;
        }

        int faultAt() {
            int place = 0;
            for (int i = 0; i < count; i++) {
                int sign = at(signs, i);
                if (!canStand(sign, place, at(signs, i - 1))) {
                    return i;
                }
                place = sign == '.' || place == DARE_SIGNS - 1 ? 0 : place + 1;
            }
            return place == 0 ? NONE : count;
        }

        /** The place is that inside of the event. */
        private static boolean canStand(int sign, int place, int before) {
            switch (place) {
                case 0: return sign == '.' || isLetter(sign);
                case 1: return isLetter(sign);
                case 2: return sign == '0' || sign == '1';
                case 3: return before == '0' ? within(sign, '1', '9') : within(sign, '0', '5');
                default: return sign == '+' || sign == '-' || sign == '*';
            }
        }

        private static boolean isLetter(int sign) {
            return within(sign, 'A', 'F');
        }
    }

    /** A text without a fault, played from how all is, up to its end or to the first event that can not be. */
    private static final class Summer {
        final Town after = new Town();
        final int[] ties = new int[PEOPLE * PEOPLE];
        final Chance luck = new Chance();
        int events;
        int why;
        int done;
        int refused;
        int doubled;
        int heights;

        void play(Pad pad, Town start) {
            if (pad == null) {
                return;
            }
            begin(start);
            int i = 0;
            while (i < pad.count) {
                if (at(pad.signs, i) == '.') {
                    after.night();
                    i++;
                } else {
                    playDare(pad.signs, i);
                    i += DARE_SIGNS;
                }
                if (why != 0) {
                    return;
                }
                events++;
            }
        }

        private void begin(Town start) {
            after.copyFrom(start);
            for (int two = 0; two < ties.length; two++) {
                put(ties, two, 0);
            }
            luck.begin();
            events = 0;
            why = 0;
            done = 0;
            refused = 0;
            doubled = 0;
            heights = 0;
        }

        private void playDare(int[] signs, int from) {
            int darer = at(signs, from) - 'A';
            int dared = at(signs, from + 1) - 'A';
            int height = 10 * (at(signs, from + 2) - '0') + at(signs, from + 3) - '0';
            why = after.whyNot(darer, dared, height);
            if (why != 0) {
                return;
            }
            int two = darer * PEOPLE + dared;
            put(ties, two, at(ties, two) + 1);
            switch (at(signs, from + 4)) {
                case '+':
                    done++;
                    reckon(dared, height);
                    after.perform(dared, height);
                    break;
                case '-':
                    refused++;
                    after.refuse(dared, height);
                    break;
                default:
                    doubled++;
                    // That nobody is hurt asks both to do it, whatever was drawn.
                    reckon(darer, height);
                    reckon(dared, height);
                    if (!after.perform(darer, height)) {
                        after.perform(dared, height);
                    }
            }
        }

        /** Beyond what is told of, the chance would outgrow a long. */
        private void reckon(int person, int height) {
            heights++;
            if (heights <= HEIGHTS_RECKONED) {
                luck.goesWell(after.oddsOf(person, height));
            }
        }

        /** The two with most dares, the first one times PEOPLE and the second; -1 without dares. */
        int closest() {
            int best = -1;
            int most = 0;
            for (int two = 0; two < ties.length; two++) {
                if (at(ties, two) > most) {
                    most = at(ties, two);
                    best = two;
                }
            }
            return best;
        }
    }

    /** That up to fifteen heights all go well: more tenths than that, a long does not hold. */
    private static final class Chance {
        private long upper = 1;
        private long lower = 1;

        void begin() {
            upper = 1;
            lower = 1;
        }

        void goesWell(int odds) {
            upper *= 10 - odds;
            lower *= 10;
        }

        boolean isAtLeast(int a, int b) {
            return upper * b >= a * lower;
        }

        long lowest(int part) {
            long shared = lower;
            long rest = upper;
            for (int i = 0; i < 100 && rest != 0; i++) {
                long next = shared % rest;
                shared = rest;
                rest = next;
            }
            long told = part == 0 ? upper : lower;
            return shared == 0 ? told : told / shared;
        }
    }

    /** Two who dare one another by turns. */
    private static final class Climb {
        final Chance luck = new Chance();
        int done;
        int last;
        int refuser;

        void go(Town town, int first, int second, int height, int limit) {
            luck.begin();
            done = 0;
            last = height;
            refuser = NONE;
            if (town == null) {
                return;
            }
            int step = Math.max(1, town.rule(STEP));
            int dared = second;
            for (int h = height; h <= limit; h += step) {
                last = h;
                if (!town.dares(dared, h, town.prideOf(dared))) {
                    refuser = dared;
                    return;
                }
                done++;
                luck.goesWell(town.oddsOf(dared, h));
                dared = dared == second ? first : second;
            }
        }
    }

    /** The game of doubling, solved from its last dare back to its first. */
    private static final class Game {
        int choice;
        int toDared;
        int toDarer;

        void solve(Town town, int first, int second, int height, int limit) {
            choice = 0;
            toDared = 0;
            toDarer = 0;
            if (town == null) {
                return;
            }
            int step = Math.max(1, town.rule(STEP));
            for (int turn = TOP; turn >= 0; turn--) {
                int h = height + turn * step;
                if (h <= limit) {
                    boolean even = turn % 2 == 0;
                    settle(town, even ? first : second, even ? second : first, h);
                }
            }
        }

        /** Ahead of it the fields tell of the next dare, where the two have changed places. */
        private void settle(Town town, int darer, int dared, int height) {
            if (town == null) {
                return;
            }
            int itsPride = town.prideOf(dared);
            int doneToDared = town.worthDone(dared, height, itsPride) + toDarer;
            int doneToDarer = toDared;
            int refusedToDared = Town.worthRefused(height, itsPride);
            int metToDarer = town.worthDone(darer, height, town.prideOf(darer)) + toDared;
            int unmetToDarer = -10 * town.prideOf(darer) * height;
            boolean met = metToDarer >= unmetToDarer;
            int doubledToDared = met ? doneToDared : 5 * itsPride * height;
            if (doneToDared >= refusedToDared && doneToDared >= doubledToDared) {
                settleFor(0, doneToDared, doneToDarer);
            } else if (refusedToDared >= doubledToDared) {
                settleFor(1, refusedToDared, 0);
            } else {
                settleFor(2, doubledToDared, met ? metToDarer : unmetToDarer);
            }
        }

        private void settleFor(int itsChoice, int dared, int darer) {
            choice = itsChoice;
            toDared = dared;
            toDarer = darer;
        }
    }

    /** A year of dares by draws, on a town of its own. */
    private static final class Year {
        private final Town town = new Town();
        int done;
        int refused;
        int hurt;

        void pass(Town start, int seed, int dares) {
            town.copyFrom(start);
            done = 0;
            refused = 0;
            hurt = 0;
            int draw = seed;
            for (int i = 1; i <= dares; i++) {
                draw = drawAfter(draw);
                dare(draw % PEOPLE, draw / 6 % PEOPLE);
                if (i % 3 == 0) {
                    town.night();
                }
            }
        }

        private void dare(int darer, int dared) {
            int height = Math.min(TOP, at(town.high, darer) + town.rule(STEP));
            if (town.whyNot(darer, dared, height) != 0) {
                return;
            }
            if (!town.dares(dared, height, town.prideOf(dared))) {
                refused++;
                town.refuse(dared, height);
                return;
            }
            done++;
            if (town.perform(dared, height)) {
                hurt++;
            }
        }
    }
}
