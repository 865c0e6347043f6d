/** The boundaries of promises 14 to 21, each from both sides: worth, nerve, climbs, the law, the game of doubling. */
public final class ClimbEdgesTest {
    private static final int U = DareBridge.UNKNOWN, O = DareBridge.OUTSIDE, NONE = DareBridge.NONE;
    private static final long GONE = DareBridge.GONE;
    private static final int[] NO_HEIGHT = {0, 16, -1, Integer.MIN_VALUE, Integer.MAX_VALUE};
    /** Heights and limits that are not as told. */
    private static final int[][] NO_CLIMB = {{0, 1}, {0, 15}, {-1, 15}, {2, 1}, {15, 14}, {6, 5}, {1, 16}, {15, 16}, {16, 16},
        {16, 15}, {1, 0}, {0, 0}, {-1, -1}, {1, Integer.MAX_VALUE}, {Integer.MIN_VALUE, 15}, {Integer.MAX_VALUE, 15},
        {Integer.MAX_VALUE, Integer.MAX_VALUE}, {1, Integer.MIN_VALUE}, {Integer.MIN_VALUE, Integer.MIN_VALUE}};

    public static void main(String[] args) {
        oddsAreZeroAtLeastAndTenAtMost();
        oddsAreCut();
        oddsOfWetAreFiveMore();
        whoAndHeightOfOdds();
        worthAtItsEnds();
        worthRefusedIsOfHalfTheHeightCut();
        whoAndHeightOfWorth();
        doesWhatIsWorthNoLess();
        whoAndHeightOfDoes();
        nerveIsZeroToFifteen();
        nerveEndsAtTheFirstRefusal();
        sureIsNoneOrMore();
        whoAndWhatOfNerve();
        climbOfOneAndOfFifteen();
        climbUpToTheLimit();
        climbIsRefused();
        climbHeedsNeitherHighNorPlaster();
        whoAndHeightsOfClimb();
        safeOfOneAndOfFifteen();
        safeOfNoneDone();
        safeOfCertainHarm();
        whoAndHeightsOfSafe();
        lawIsAtLeast();
        lawIsTheHeightAtLeastAndFifteenAtMost();
        aOfLawIsZeroToB();
        bOfLawIsOneToHundred();
        whoAndHeightOfLaw();
        gameAtItsEnds();
        gameGoesOnUpToTheLimit();
        gameOfAsMuch();
        gameOfWhoMeetsADouble();
        whoAndHeightsOfGame();
        Due.end();
    }

    private static void oddsAre(int skill, int wet, int height, int due) {
        DareBridge x = Made.two(skill, 0, 0);
        x.set(5, wet);
        Due.is("odds of skill " + skill + " at " + height + ", wet " + wet, x.odds(0, height), due);
    }

    private static void oddsAreZeroAtLeastAndTenAtMost() {
        oddsAre(9, 0, 1, 0);
        oddsAre(9, 0, 6, 0);
        oddsAre(9, 0, 7, 0);
        oddsAre(9, 0, 8, 0);
        oddsAre(9, 0, 9, 0);
        oddsAre(9, 0, 10, 0);
        oddsAre(9, 0, 11, 1);
        oddsAre(9, 1, 1, 0);
        oddsAre(9, 1, 4, 0);
        oddsAre(9, 1, 5, 0);
        oddsAre(9, 1, 6, 1);
        oddsAre(0, 1, 13, 9);
        oddsAre(0, 1, 14, 9);
        oddsAre(0, 1, 15, 10);
        oddsAre(1, 1, 15, 9);
        oddsAre(0, 0, 15, 7);
    }

    private static void oddsAreCut() {
        for (int height = 1; height <= 15; height++) {
            oddsAre(0, 0, height, height / 2);
            oddsAre(1, 0, height, (height - 1) / 2);
        }
    }

    private static void oddsOfWetAreFiveMore() {
        for (int height = 1; height <= 10; height++) {
            Due.is("wet at " + height, wet(0).odds(0, height), Made.two(0, 0, 0).odds(0, height + 5));
        }
    }

    private static DareBridge wet(int skill) {
        DareBridge x = Made.two(skill, 0, 0);
        x.set(5, 1);
        return x;
    }

    private static void whoAndHeightOfOdds() {
        for (int who : Made.NOBODY) {
            Due.refused("odds of " + who, Made::town, x -> x.odds(who, 1), U);
            Due.refused("odds of " + who + " at 16", Made::town, x -> x.odds(who, 16), U);
        }
        for (int height : NO_HEIGHT) {
            Due.refused("odds at " + height, Made::town, x -> x.odds(4, height), O);
        }
        Due.refused("odds at 1", Made::town, x -> x.odds(1, 1), 3);
        Due.refused("odds at 15", Made::town, x -> x.odds(1, 15), 10);
    }

    private static void worthAtItsEnds() {
        DareBridge x = Made.two(9, 0, 9);
        x.set(2, 0);
        Due.is("most worth", x.worth(0, 15, 0), 1001350);
        Due.is("least worth refused", x.worth(0, 15, 1), 999370);
        Due.is("worth of 1", x.worth(0, 1, 0), 1000090);
        DareBridge y = Made.two(0, 9, 0);
        y.set(2, 99);
        y.set(5, 1);
        // Ten times 99 and 135.
        Due.is("least worth", y.worth(0, 15, 0), 997660);
        Due.is("refused without pride", y.worth(0, 15, 1), 1000000);
        // Three times 99 and 9.
        Due.is("worth of 1 without pride", y.worth(0, 1, 0), 999676);
    }

    private static void worthRefusedIsOfHalfTheHeightCut() {
        DareBridge x = Made.two(0, 0, 1);
        for (int height = 1; height <= 15; height++) {
            Due.is("worth refused of " + height, x.worth(0, height, 1), 1000000 - 10 * (height / 2));
        }
    }

    private static void whoAndHeightOfWorth() {
        for (int who : Made.NOBODY) {
            for (int what = -1; what <= 2; what++) {
                int w = what;
                Due.refused("worth of " + who, Made::town, x -> x.worth(who, 1, w), U);
                Due.refused("worth of " + who + " at 0", Made::town, x -> x.worth(who, 0, w), U);
            }
        }
        for (int height : NO_HEIGHT) {
            Due.refused("worth at " + height, Made::town, x -> x.worth(4, height, 0), O);
            Due.refused("worth refused at " + height, Made::town, x -> x.worth(4, height, 1), O);
        }
        for (int what : new int[] {-1, 2, Integer.MIN_VALUE, Integer.MAX_VALUE}) {
            Due.refused("worth " + what, Made::town, x -> x.worth(4, 1, what), O);
        }
    }

    /** By the COST it does the height still, by one more it does not. */
    private static void doesUpTo(int cost, int skill, int pride, int height) {
        DareBridge x = Made.two(skill, 0, pride);
        x.set(2, cost);
        Due.is("worth no less, COST " + cost, x.does(0, height), 1);
        Due.is("as much, COST " + cost, x.worth(0, height, 0) - x.worth(0, height, 1), 0);
        x.set(2, cost + 1);
        Due.is("worth less, COST " + (cost + 1), x.does(0, height), 0);
    }

    private static void doesWhatIsWorthNoLess() {
        doesUpTo(0, 0, 0, 2);
        doesUpTo(0, 0, 0, 15);
        // At 2 of ODDS 1: 20 and 10; at 4 of ODDS 2: 40 and 20; at 5: 50 and 20.
        doesUpTo(30, 0, 1, 2);
        doesUpTo(60, 0, 2, 2);
        doesUpTo(30, 0, 1, 4);
        doesUpTo(35, 0, 1, 5);
        DareBridge x = Made.two(9, 9, 0);
        x.set(2, 99);
        Due.is("no ODDS, no worth", x.does(0, 10), 1);
        Due.is("ODDS and no worth", x.does(0, 11), 0);
    }

    private static void whoAndHeightOfDoes() {
        for (int who : Made.NOBODY) {
            Due.refused("does of " + who, Made::town, x -> x.does(who, 1), U);
            Due.refused("does of " + who + " at 16", Made::town, x -> x.does(who, 16), U);
        }
        for (int height : NO_HEIGHT) {
            Due.refused("does at " + height, Made::town, x -> x.does(4, height), O);
        }
        Due.refused("does at 1", Made::town, x -> x.does(0, 1), 1);
        Due.refused("does at 15", Made::town, x -> x.does(0, 15), 1);
    }

    private static void nerveIs(DareBridge x, int nerve, int refused, int sure) {
        Due.is("nerve", x.nerve(0, 0), nerve);
        Due.is("refused least", x.nerve(0, 1), refused);
        Due.is("sure", x.nerve(0, 2), sure);
    }

    private static void nerveIsZeroToFifteen() {
        nerveIs(Made.two(0, 0, 0), 1, 2, 1);
        nerveIs(wet(0), 0, 1, 0);
        DareBridge x = Made.two(9, 0, 1);
        // At 15, of ODDS 3, 150 and 70: no more than 73 each; at 14 more is left.
        x.set(2, 73);
        nerveIs(x, 15, NONE, 10);
        x.set(2, 74);
        nerveIs(x, 14, 15, 10);
    }

    private static void nerveEndsAtTheFirstRefusal() {
        DareBridge x = Made.two(0, 0, 1);
        x.set(2, 31);
        // At 3, of ODDS 1 too, 30 and 10 are more than 31.
        Due.is("not at 2", x.does(0, 2), 0);
        Due.is("but at 3", x.does(0, 3), 1);
        nerveIs(x, 1, 2, 1);
    }

    private static void sureIsNoneOrMore() {
        int[] due = {0, 0, 0, 0, 0, 1, 2, 3, 4, 5};
        for (int skill = 0; skill <= 9; skill++) {
            Due.is("sure, wet, of skill " + skill, wet(skill).nerve(0, 2), due[skill]);
            Due.is("sure of skill " + skill, Made.two(skill, 9, 9).nerve(0, 2), skill + 1);
        }
    }

    private static void whoAndWhatOfNerve() {
        for (int who : Made.NOBODY) {
            for (int what = -1; what <= 3; what++) {
                int w = what;
                Due.refused("nerve of " + who, Made::town, x -> x.nerve(who, w), U);
            }
        }
        for (int what : new int[] {-1, 3, Integer.MIN_VALUE, Integer.MAX_VALUE}) {
            Due.refused("nerve " + what, Made::town, x -> x.nerve(4, what), O);
        }
    }

    /** Two who do all. */
    private static DareBridge bold(int skill, int step) {
        DareBridge x = Made.two(skill, 0, 9);
        x.set(0, step);
        x.set(2, 0);
        return x;
    }

    private static void climbIs(DareBridge x, int height, int limit, int done, int last, int refuser) {
        String call = "climb from " + height + " to " + limit;
        Due.is(call + ": done", x.climb(0, 1, height, limit, 0), done);
        Due.is(call + ": last", x.climb(0, 1, height, limit, 1), last);
        Due.is(call + ": refuser", x.climb(0, 1, height, limit, 2), refuser);
    }

    private static void climbOfOneAndOfFifteen() {
        climbIs(bold(0, 1), 1, 1, 1, 1, NONE);
        climbIs(bold(0, 1), 1, 15, 15, 15, NONE);
        climbIs(bold(0, 1), 15, 15, 1, 15, NONE);
        climbIs(bold(0, 1), 14, 15, 2, 15, NONE);
        climbIs(bold(0, 9), 1, 15, 2, 10, NONE);
        climbIs(bold(0, 2), 1, 15, 8, 15, NONE);
        climbIs(bold(0, 2), 2, 15, 7, 14, NONE);
    }

    private static void climbUpToTheLimit() {
        for (int step : new int[] {1, 4, 9}) {
            climbIs(bold(0, step), 3, 2 + step, 1, 3, NONE);
            climbIs(bold(0, step), 3, 3 + step, 2, 3 + step, NONE);
        }
    }

    private static void climbIsRefused() {
        // Without pride A of skill 9 refuses from 11 on, B of 0 from 2 on.
        DareBridge x = Made.two(0, 0, 0);
        x.person(0, 9, 0, 0, false);
        climbIs(x, 1, 1, 1, 1, NONE);
        climbIs(x, 2, 15, 0, 2, 1);
        climbIs(x, 2, 2, 0, 2, 1);
        climbIs(x, 1, 2, 1, 1, NONE);
        climbIs(x, 1, 4, 2, 3, NONE);
        climbIs(x, 1, 5, 2, 5, 1);
        climbIs(x, 1, 15, 2, 5, 1);
        Due.is("the other way round", x.climb(1, 0, 10, 15, 2), 1);
        Due.is("A refuses 11", x.climb(1, 0, 11, 15, 2), 0);
        x.person(1, 9, 0, 0, false);
        climbIs(x, 7, 12, 2, 11, 1);
        climbIs(x, 9, 12, 1, 11, 0);
        climbIs(x, 9, 10, 1, 9, NONE);
        climbIs(x, 9, 11, 1, 11, 0);
    }

    private static void climbHeedsNeitherHighNorPlaster() {
        DareBridge x = new DareBridge();
        x.set(1, 9);
        x.set(6, 0);
        x.person(0, 9, 0, 9, false);
        x.person(1, 0, 0, 9, false);
        Due.say(x, "AB10+");
        x.done();
        Due.is("B is in plaster", x.state(1, 2), 6);
        climbIs(x, 1, 5, 3, 5, NONE);
        Due.is("SAFE of it", x.safe(0, 1, 1, 5, 0), 4);
        Due.is("GAME of it", x.game(0, 1, 1, 1, 1), 1000090);
    }

    private static void whoAndHeightsOfClimb() {
        for (int who : Made.NOBODY) {
            Due.refused("climb of " + who, Made::town, x -> x.climb(who, 0, 1, 1, 0), U);
            Due.refused("climb with " + who, Made::town, x -> x.climb(0, who, 1, 1, 0), U);
            Due.refused("climb with " + who + ", all outside", Made::town, x -> x.climb(0, who, 0, 16, 3), U);
        }
        for (int p = 0; p < 5; p++) {
            int who = p;
            Due.refused("climb of one", Made::town, x -> x.climb(who, who, 1, 1, 0), U);
            Due.refused("climb of one, all outside", Made::town, x -> x.climb(who, who, 16, 0, -1), U);
        }
        for (int[] off : NO_CLIMB) {
            for (int what = 0; what <= 2; what++) {
                int w = what;
                Due.refused("climb " + off[0] + " " + off[1], Made::town, x -> x.climb(0, 4, off[0], off[1], w), O);
            }
        }
        for (int what : new int[] {-1, 3, Integer.MIN_VALUE, Integer.MAX_VALUE}) {
            Due.refused("climb " + what, Made::town, x -> x.climb(0, 4, 1, 1, what), O);
        }
        for (int what = 0; what <= 2; what++) {
            int w = what;
            int[] due = {1, 15, NONE};
            Due.refused("climb changes nothing", Made::town, x -> x.climb(0, 2, 15, 15, w), due[what]);
        }
    }

    private static void safeIs(DareBridge x, int height, int limit, long upper, long lower) {
        String call = "safe from " + height + " to " + limit;
        Due.is(call + ": upper", x.safe(0, 1, height, limit, 0), upper);
        Due.is(call + ": lower", x.safe(0, 1, height, limit, 1), lower);
    }

    private static void safeOfOneAndOfFifteen() {
        safeIs(bold(0, 1), 1, 1, 1, 1);
        safeIs(bold(0, 1), 2, 2, 9, 10);
        safeIs(bold(0, 1), 15, 15, 3, 10);
        // 10 tenths, twice 9, 8, 7, 6, 5, 4, 3.
        safeIs(bold(0, 1), 1, 15, 321489, 976562500);
        safeIs(bold(9, 1), 1, 10, 1, 1);
        safeIs(bold(9, 1), 1, 11, 9, 10);
        DareBridge x = bold(0, 1);
        x.set(5, 1);
        // Twice 7, 6, 5, 4, 3, 2, 1.
        safeIs(x, 1, 14, 3969, 15625000000L);
    }

    private static void safeOfNoneDone() {
        DareBridge x = Made.two(0, 0, 0);
        safeIs(x, 2, 15, 1, 1);
        safeIs(x, 15, 15, 1, 1);
        safeIs(x, 1, 15, 1, 1);
        // What is refused does not harm.
        x.person(0, 0, 0, 1, false);
        Due.is("A does 2, B refuses 4", x.safe(1, 0, 2, 15, 0), 9);
        Due.is("of ten", x.safe(1, 0, 2, 15, 1), 10);
    }

    private static void safeOfCertainHarm() {
        DareBridge x = bold(0, 1);
        x.set(5, 1);
        safeIs(x, 14, 14, 1, 10);
        safeIs(x, 15, 15, 0, 1);
        safeIs(x, 1, 15, 0, 1);
    }

    private static void whoAndHeightsOfSafe() {
        for (int who : Made.NOBODY) {
            Due.refused("safe of " + who, Made::town, x -> x.safe(who, 0, 1, 1, 0), GONE + U);
            Due.refused("safe with " + who, Made::town, x -> x.safe(0, who, 1, 1, 1), GONE + U);
            Due.refused("safe with " + who + ", all outside", Made::town, x -> x.safe(0, who, 0, 16, 2), GONE + U);
        }
        for (int p = 0; p < 5; p++) {
            int who = p;
            Due.refused("safe of one", Made::town, x -> x.safe(who, who, 1, 1, 0), GONE + U);
            Due.refused("safe of one, all outside", Made::town, x -> x.safe(who, who, 16, 0, 2), GONE + U);
        }
        for (int[] off : NO_CLIMB) {
            Due.refused("safe " + off[0] + " " + off[1], Made::town, x -> x.safe(0, 4, off[0], off[1], 0), GONE + O);
            Due.refused("safe " + off[0] + " " + off[1], Made::town, x -> x.safe(0, 4, off[0], off[1], 1), GONE + O);
        }
        for (int part : new int[] {-1, 2, Integer.MIN_VALUE, Integer.MAX_VALUE}) {
            Due.refused("safe " + part, Made::town, x -> x.safe(0, 4, 1, 1, part), GONE + O);
        }
    }

    /** The LAW by a and by one more. */
    private static void lawIs(DareBridge x, int height, int a, int b, int due, int dueOfMore) {
        Due.is("law " + a + " by " + b, x.law(0, 1, height, a, b), due);
        Due.is("law " + (a + 1) + " by " + b, x.law(0, 1, height, a + 1, b), dueOfMore);
    }

    private static void lawIsAtLeast() {
        // SAFE by 1, 2, 3 is 1, 9 and 81 of a hundred less each; by 4 it is 648 of 1000, by 11 22.. , by 12 9.. .
        lawIs(bold(0, 1), 1, 99, 100, 1, 1);
        lawIs(bold(0, 1), 1, 90, 100, 2, 1);
        lawIs(bold(0, 1), 1, 81, 100, 3, 2);
        lawIs(bold(0, 1), 1, 9, 10, 2, 1);
        lawIs(bold(0, 1), 1, 64, 100, 4, 3);
        lawIs(bold(0, 1), 1, 2, 100, 11, 10);
        lawIs(bold(0, 1), 1, 0, 100, 15, 11);
        lawIs(bold(0, 1), 1, 0, 1, 15, 1);
    }

    private static void lawIsTheHeightAtLeastAndFifteenAtMost() {
        lawIs(bold(0, 1), 15, 3, 10, 15, NONE);
        lawIs(bold(0, 1), 15, 30, 100, 15, NONE);
        lawIs(bold(0, 1), 14, 3, 10, 14, NONE);
        lawIs(bold(0, 1), 2, 90, 100, 2, NONE);
        // The next dare is by 4 at the least.
        lawIs(bold(0, 2), 2, 90, 100, 3, NONE);
        lawIs(bold(0, 2), 2, 72, 100, 5, 3);
        lawIs(bold(9, 9), 1, 0, 1, 15, 15);
        // Whoever refuses is not hurt.
        lawIs(Made.two(0, 0, 0), 2, 99, 100, 15, 15);
        DareBridge x = bold(0, 1);
        x.set(5, 1);
        Due.is("certain harm by 0", x.law(0, 1, 15, 0, 100), 15);
        Due.is("certain harm by 1", x.law(0, 1, 15, 1, 100), NONE);
        Due.is("nearly certain harm", x.law(0, 1, 14, 1, 10), 14);
    }

    private static void aOfLawIsZeroToB() {
        for (int b : new int[] {1, 2, 100}) {
            Due.is("0 by " + b, bold(0, 1).law(0, 1, 2, 0, b), 15);
            Due.is(b + " by " + b, bold(0, 1).law(0, 1, 1, b, b), 1);
            for (int a : new int[] {-1, b + 1, Integer.MIN_VALUE, Integer.MAX_VALUE}) {
                Due.refused("law " + a + " by " + b, Made::town, x -> x.law(0, 4, 1, a, b), O);
            }
        }
    }

    private static void bOfLawIsOneToHundred() {
        Due.is("1 by 1", bold(0, 1).law(0, 1, 1, 1, 1), 1);
        Due.is("100 by 100", bold(0, 1).law(0, 1, 1, 100, 100), 1);
        for (int b : new int[] {0, 101, -1, Integer.MIN_VALUE, Integer.MAX_VALUE}) {
            for (int a : new int[] {0, 1, 100, b}) {
                Due.refused("law " + a + " by " + b, Made::town, x -> x.law(0, 4, 1, a, b), O);
            }
        }
    }

    private static void whoAndHeightOfLaw() {
        for (int who : Made.NOBODY) {
            Due.refused("law of " + who, Made::town, x -> x.law(who, 0, 1, 1, 2), U);
            Due.refused("law with " + who, Made::town, x -> x.law(0, who, 1, 1, 2), U);
            Due.refused("law with " + who + ", all outside", Made::town, x -> x.law(0, who, 16, 2, 0), U);
        }
        for (int p = 0; p < 5; p++) {
            int who = p;
            Due.refused("law of one", Made::town, x -> x.law(who, who, 1, 1, 2), U);
            Due.refused("law of one, all outside", Made::town, x -> x.law(who, who, 0, 2, 0), U);
        }
        for (int height : NO_HEIGHT) {
            Due.refused("law from " + height, Made::town, x -> x.law(0, 4, height, 1, 2), O);
            Due.refused("law from " + height, Made::town, x -> x.law(0, 4, height, 0, 1), O);
        }
        Due.refused("law from 15", Made::town, x -> x.law(0, 4, 15, 0, 1), 15);
        Due.refused("law from 15, not even that", Made::town, x -> x.law(0, 1, 15, 1, 1), NONE);
    }

    private static void gameIs(DareBridge x, int height, int limit, int choice, int dared, int darer) {
        String call = "game from " + height + " to " + limit;
        Due.is(call + ": what", x.game(0, 1, height, limit, 0), choice);
        Due.is(call + ": to who is dared", x.game(0, 1, height, limit, 1), 1000000 + dared);
        Due.is(call + ": to who dares", x.game(0, 1, height, limit, 2), 1000000 + darer);
    }

    private static void gameAtItsEnds() {
        // Ninety times 1, 3, .. 15 and 2, 4, .. 14.
        gameIs(bold(0, 1), 1, 15, 0, 5760, 5040);
        gameIs(bold(0, 1), 1, 1, 0, 90, 0);
        gameIs(bold(0, 1), 15, 15, 0, 1350, 0);
        DareBridge x = Made.two(0, 9, 9);
        x.set(2, 99);
        x.set(5, 1);
        // Done 1350 less 2340, refused 0 less 630; A would meet a double, as 1350 is more than 990 lost.
        gameIs(x, 15, 15, 1, -630, 0);
        x.person(0, 0, 9, 8, false);
        gameIs(x, 15, 15, 1, -630, 0);
        // 1050 less 2340 is below 0 less 1050.
        x.person(0, 0, 9, 7, false);
        gameIs(x, 15, 15, 2, 675, -1050);
        x.person(0, 0, 9, 0, false);
        gameIs(x, 15, 15, 2, 675, 0);
    }

    private static void gameGoesOnUpToTheLimit() {
        for (int step : new int[] {1, 4, 9}) {
            gameIs(bold(0, step), 3, 2 + step, 0, 270, 0);
            gameIs(bold(0, step), 3, 3 + step, 0, 270, 90 * (3 + step));
        }
        gameIs(bold(0, 9), 6, 15, 0, 540, 1350);
        gameIs(bold(0, 9), 6, 14, 0, 540, 0);
        gameIs(bold(0, 9), 7, 15, 0, 630, 0);
        // By turns: fifty times 1, 3 and so on to B, ninety times 2, 4 and so on to A.
        DareBridge x = bold(0, 1);
        x.person(1, 0, 0, 5, false);
        gameIs(x, 1, 1, 0, 50, 0);
        gameIs(x, 1, 2, 0, 50, 180);
        gameIs(x, 1, 3, 0, 200, 180);
        gameIs(x, 1, 4, 0, 200, 540);
        gameIs(x, 1, 5, 0, 450, 540);
        gameIs(x, 1, 15, 0, 3200, 5040);
    }

    private static void gameOfAsMuch() {
        // Doing is worth 0 less 20, refusing too: doing goes ahead; and by more COST refusing.
        DareBridge x = Made.two(0, 0, 1);
        x.set(2, 30);
        gameIs(x, 4, 4, 0, -20, 0);
        x.set(2, 31);
        gameIs(x, 4, 4, 1, -20, 0);
        // A would not meet it. Doing is worth 40 to B of pride 2, doubling also; by more COST doubling is worth more.
        DareBridge y = Made.two(0, 0, 2);
        y.person(0, 0, 0, 0, false);
        gameIs(y, 4, 4, 0, 40, 0);
        y.set(2, 19);
        gameIs(y, 4, 4, 0, 42, 0);
        y.set(2, 21);
        gameIs(y, 4, 4, 2, 40, 0);
        // Neither has pride: doing costs, refusing and doubling do not; and by no COST doing goes ahead of both.
        DareBridge z = Made.two(0, 0, 0);
        gameIs(z, 4, 4, 1, 0, 0);
        z.set(2, 0);
        gameIs(z, 4, 4, 0, 0, 0);
    }

    private static void gameOfWhoMeetsADouble() {
        // At 4 A, of pride 1, meets by 40 less twice the COST what else were 0 less 40: up to 40; B refuses then.
        DareBridge x = Made.two(0, 0, 1);
        x.set(2, 40);
        gameIs(x, 4, 4, 1, -20, 0);
        x.set(2, 41);
        gameIs(x, 4, 4, 2, 20, -40);
        // What comes behind counts: B meets at 6, of ODDS 3, no double of A if that is 60 less 123, below 0 less 60.
        gameIs(x, 4, 5, 2, 20, -40);
        // A doubles 6 (30 to it, 0 less 60 to B), so it would meet at 4 by 40 less 82 and 30.
        // B: done 40 less 82 less 60, refused 0 less 20.
        gameIs(x, 4, 6, 1, -20, 0);
    }

    private static void whoAndHeightsOfGame() {
        for (int who : Made.NOBODY) {
            Due.refused("game of " + who, Made::town, x -> x.game(who, 0, 1, 1, 0), U);
            Due.refused("game with " + who, Made::town, x -> x.game(0, who, 1, 1, 0), U);
            Due.refused("game with " + who + ", all outside", Made::town, x -> x.game(0, who, 0, 16, 3), U);
        }
        for (int p = 0; p < 5; p++) {
            int who = p;
            Due.refused("game of one", Made::town, x -> x.game(who, who, 1, 1, 0), U);
            Due.refused("game of one, all outside", Made::town, x -> x.game(who, who, 16, 0, -1), U);
        }
        for (int[] off : NO_CLIMB) {
            for (int what = 0; what <= 2; what++) {
                int w = what;
                Due.refused("game " + off[0] + " " + off[1], Made::town, x -> x.game(0, 4, off[0], off[1], w), O);
            }
        }
        for (int what : new int[] {-1, 3, Integer.MIN_VALUE, Integer.MAX_VALUE}) {
            Due.refused("game " + what, Made::town, x -> x.game(0, 4, 1, 1, what), O);
        }
    }
}
