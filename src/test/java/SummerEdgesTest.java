import java.util.function.Supplier;

/** The boundaries of promises 8 to 13, each from both sides: what is done, refused, doubled, of nights, of dares that can not be. */
public final class SummerEdgesTest {
    private static final int U = DareBridge.UNKNOWN, O = DareBridge.OUTSIDE, S = DareBridge.STATE;
    private static final int F = DareBridge.FULL, NO = DareBridge.NO, NONE = DareBridge.NONE;
    private static final long GONE = DareBridge.GONE;

    public static void main(String[] args) {
        heightsAreOneToFifteen();
        highIsItIfItIsMore();
        aDrawIsBelowOddsOrNot();
        eachDoneIsADraw();
        refusedIsHalfTheHeightCut();
        fameGoesBelowZero();
        doubledUnlessWhoDaresIsInPlaster();
        aNightFadesTowardsZero();
        aNightInPlaster();
        reasonOneIsNobodyOrOne();
        reasonTwoIsPlaster();
        reasonThreeIsAboveHighAndStep();
        reasonFourIsNotAboveHigh();
        theLeastOfReasons();
        theFirstEventThatCanNotBe();
        eventsAreCountedFromZero();
        whatOfJudge();
        judgeOfAFault();
        judgeOfWhatCanNotBe();
        countsOfNoneAndOfTwelve();
        whoAndWhatOfState();
        whoAndWhatOfBehind();
        behindIsAsBehindDone();
        doneOfNothingAndOfSixty();
        doneIsRefused();
        tiesOfNoDares();
        theLeastOfSeveralTies();
        tiesOfTheFirstAndTheLastTwo();
        whatOfTies();
        unhurtOfNothing();
        unhurtOfFifteenAndSixteen();
        unhurtOfNoneAtAll();
        unhurtWhateverWasDrawn();
        partsOfUnhurt();
        Due.end();
    }

    private static DareBridge saying(DareBridge x, String text) {
        x.wipe();
        Due.say(x, text);
        return x;
    }

    private static void behindIs(DareBridge x, String text, int person, int fame, int high, int plaster) {
        saying(x, text);
        Due.is(text + ": fame of " + person, x.behind(person, 0), 1000 + fame);
        Due.is(text + ": high of " + person, x.behind(person, 1), high);
        Due.is(text + ": plaster of " + person, x.behind(person, 2), plaster);
    }

    private static void heightsAreOneToFifteen() {
        DareBridge x = Made.highs(9, 0, 0);
        behindIs(x, "AB01+", 1, 1, 1, 0);
        DareBridge y = Made.highs(9, 9, 0);
        y.set(0, 6);
        behindIs(y, "AB15+", 1, 15, 15, 0);
        Due.is("00 is none", saying(y, "AB00+").fault(), 3);
        Due.is("16 is none", saying(y, "AB16+").fault(), 3);
        Due.is("00 is not judged", saying(y, "AB00+").judge(0), NO);
        Due.is("16 is not judged", saying(y, "AB16+").judge(0), NO);
    }

    private static void highIsItIfItIsMore() {
        DareBridge x = Made.highs(9, 5, 3);
        // Less than A's, as much, more; all are more than B's.
        behindIs(x, "AB04*", 0, 4, 5, 0);
        behindIs(x, "AB05*", 0, 5, 5, 0);
        behindIs(x, "AB06*", 0, 6, 6, 0);
        behindIs(x, "AB04*", 1, 4, 4, 0);
        behindIs(x, "AB06*", 1, 6, 6, 0);
        behindIs(x, "AB04+", 0, 0, 5, 0);
    }

    /** B, of the skill, does the height by the draw next to the seed. */
    private static void hurt(int seed, int skill, int wet, int height, int due) {
        DareBridge x = Made.highs(skill, 9, 0);
        x.set(0, 6);
        x.set(5, wet);
        x.set(6, seed);
        Due.say(x, "AB" + height / 10 + height % 10 + "+");
        Due.is("plaster by " + seed + " of skill " + skill + " at " + height, x.behind(1, 2), due);
    }

    private static void aDrawIsBelowOddsOrNot() {
        // 74: ODDS 4, 5.
        hurt(0, 1, 0, 10, 0);
        hurt(0, 0, 0, 10, 6);
        // 100: ODDS 0, 1.
        hurt(1748, 4, 0, 5, 0);
        hurt(1748, 3, 0, 5, 6);
        hurt(1748, 9, 0, 1, 0);
        // 149: ODDS 9, 10.
        hurt(1, 1, 1, 15, 0);
        hurt(1, 0, 1, 15, 6);
        // 12, left over by 65537: ODDS 2, 3.
        hurt(873, 1, 0, 6, 0);
        hurt(873, 0, 0, 6, 6);
    }

    private static void xIs(String text, int kept, int due) {
        DareBridge x = Made.highs(0, 5, 3, 3);
        x.set(4, kept);
        x.set(5, 1);
        x.set(6, 0);
        saying(x, text).done();
        Due.is("x behind " + text, x.told(8), due);
    }

    private static void eachDoneIsADraw() {
        xIs("AB04-", 6, 0);
        xIs(".", 6, 0);
        // ODDS 4 and 5 of 74, then 5624, then 421874 left over by 65537.
        xIs("AB04+", 6, 74);
        xIs("AB04*", 6, 5624);
        xIs("AB05*", 6, 74);
        xIs("AB04*AC04+", 6, 28652);
        DareBridge x = Made.highs(9, 5, 3);
        x.set(6, 0);
        saying(x, "AB04+").done();
        Due.is("of ODDS 0 also", x.told(8), 74);
    }

    private static void refusedIsHalfTheHeightCut() {
        int[][] halves = {{1, 0}, {2, 1}, {3, 1}, {4, 2}, {13, 6}, {14, 7}, {15, 7}};
        for (int[] half : halves) {
            DareBridge x = Made.highs(9, 9, 0);
            x.set(0, 6);
            String text = "AB" + half[0] / 10 + half[0] % 10 + "-";
            behindIs(x, text, 1, -half[1], 0, 0);
            behindIs(x, text, 0, 0, 9, 0);
        }
    }

    private static void fameGoesBelowZero() {
        DareBridge x = Made.highs(9, 3, 3);
        behindIs(x, "AB04+BA05-", 1, 4, 4, 0);
        behindIs(x, "AB04+AB05-", 1, 2, 4, 0);
        behindIs(x, "AB04+AB05-AB05-", 1, 0, 4, 0);
        behindIs(x, "AB04+AB05-AB05-AB05-", 1, -2, 4, 0);
        behindIs(x, "AB05-".repeat(12), 1, -24, 3, 0);
    }

    private static void doubledUnlessWhoDaresIsInPlaster() {
        // 74 by ODDS 5 of A: in plaster, for a night at least; by ODDS 4 not.
        for (int kept : new int[] {1, 42}) {
            DareBridge x = Made.highs(0, 5, 3);
            x.set(4, kept);
            x.set(5, 1);
            x.set(6, 0);
            behindIs(x, "AB05*", 0, 5, 5, kept);
            behindIs(x, "AB05*", 1, 0, 3, 0);
            behindIs(x, "AB04*", 0, 4, 5, 0);
            // B's draw is 5624, and its ODDS 4.
            behindIs(x, "AB04*", 1, 4, 4, 0);
            // By 1 it is 149, then 11249; by 2 224, then 16874: 4 is below B's ODDS 5, and A's.
            x.set(6, 1);
            behindIs(x, "AB05*", 1, 5, 5, 0);
            x.set(6, 2);
            behindIs(x, "AB05*", 1, 0, 3, 0);
        }
        DareBridge y = Made.highs(1, 5, 3);
        y.person(1, 0, 0, 9, false);
        y.set(5, 1);
        y.set(6, 0);
        // A's ODDS are 4, B's 5; the draws end by 4 and 4.
        behindIs(y, "AB05*", 0, 5, 5, 0);
        behindIs(y, "AB05*", 1, 5, 5, 6);
    }

    private static void fadeIs(int fade, String text, int due) {
        DareBridge x = Made.highs(9, 9, 0);
        x.set(3, fade);
        behindIs(x, text, 1, due, text.endsWith("+.") ? Integer.parseInt(text.substring(2, 4)) : 0, 0);
        behindIs(x, text, 0, 0, 9, 0);
    }

    private static void aNightFadesTowardsZero() {
        fadeIs(4, "AB05+.", 1);
        fadeIs(4, "AB04+.", 0);
        fadeIs(4, "AB03+.", 0);
        fadeIs(4, "AB01-.", 0);
        fadeIs(4, "AB06-.", 0);
        fadeIs(4, "AB08-.", 0);
        fadeIs(4, "AB10-.", -1);
        fadeIs(9, "AB10+.", 1);
        fadeIs(9, "AB09+.", 0);
        fadeIs(1, "AB02+.", 1);
        fadeIs(1, "AB01+.", 0);
        fadeIs(1, "AB02-.", 0);
        fadeIs(1, "AB04-.", -1);
        fadeIs(0, "AB01+.", 1);
        fadeIs(0, "AB02-.", -1);
    }

    private static void aNightInPlaster() {
        for (int kept = 1; kept <= 3; kept++) {
            DareBridge x = Made.highs(0, 5, 3);
            x.set(4, kept);
            x.set(5, 1);
            x.set(6, 0);
            for (int nights = 0; nights <= 4; nights++) {
                saying(x, "AB05+" + ".".repeat(nights));
                Due.is("KEPT " + kept + ", nights " + nights, x.behind(1, 2), Math.max(0, kept - nights));
            }
        }
    }

    private static void judged(DareBridge x, String text, int event, int why) {
        saying(x, text);
        Due.is(text + ": event", x.judge(0), event);
        Due.is(text + ": why", x.judge(1), why);
    }

    private static void reasonOneIsNobodyOrOne() {
        DareBridge x = Made.highs(9, 3, 3, 3, 3, 3, 3);
        String letters = "ABCDEF";
        for (int p = 0; p < 6; p++) {
            for (int q = 0; q < 6; q++) {
                String text = "" + letters.charAt(p) + letters.charAt(q) + "04+";
                judged(x, text, p == q ? 0 : NONE, p == q ? 1 : NONE);
            }
        }
        for (int p = 0; p < 6; p++) {
            DareBridge y = Made.highs(9, 3, 3, 3, 3, 3, 3);
            y.leave(p);
            char gone = letters.charAt(p), there = letters.charAt((p + 1) % 6), other = letters.charAt((p + 2) % 6);
            judged(y, "" + there + gone + "04+", 0, 1);
            judged(y, "" + gone + there + "04+", 0, 1);
            judged(y, "" + gone + gone + "04+", 0, 1);
            judged(y, "" + there + other + "04+", NONE, NONE);
        }
        judged(new DareBridge(), "AB01+", 0, 1);
        judged(new DareBridge(), ".", NONE, NONE);
    }

    private static DareBridge wet(int kept) {
        DareBridge x = Made.highs(0, 5, 3, 3);
        x.set(4, kept);
        x.set(5, 1);
        x.set(6, 0);
        return x;
    }

    private static void reasonTwoIsPlaster() {
        for (int kept : new int[] {1, 2, 42}) {
            String hurt = "AB05+" + ".".repeat(kept - 1);
            judged(wet(kept), hurt + "AB06-", kept, 2);
            judged(wet(kept), hurt + "BC06-", kept, 2);
            judged(wet(kept), hurt + "AC06-", NONE, NONE);
            judged(wet(kept), hurt + ".AB06-", NONE, NONE);
            judged(wet(kept), hurt + ".BC06-", NONE, NONE);
        }
        // Who dared a double is in plaster by it.
        judged(wet(6), "AB05*AB05-", 1, 2);
        judged(wet(6), "AB05*BA06-", 1, 2);
        judged(wet(6), "AB04*AB05-", NONE, NONE);
    }

    private static void reasonThreeIsAboveHighAndStep() {
        for (int step : new int[] {1, 2, 9}) {
            DareBridge x = Made.highs(9, 3, 0);
            x.set(0, step);
            for (int height = 1; height <= 15; height++) {
                boolean above = height > 3 + step;
                judged(x, "AB" + height / 10 + height % 10 + "-", above ? 0 : NONE, above ? 3 : NONE);
            }
        }
        DareBridge y = Made.highs(9, 3, 4);
        // A's high grows by what it does.
        judged(y, "BA06+AB08-", NONE, NONE);
        judged(y, "BA06+AB09-", 1, 3);
        judged(y, "BA06-AB06-", 1, 3);
    }

    private static void reasonFourIsNotAboveHigh() {
        for (int high : new int[] {0, 3, 9}) {
            DareBridge x = Made.highs(9, 9, high);
            x.set(0, 6);
            for (int height = 1; height <= 15; height++) {
                boolean above = height > high;
                judged(x, "AB" + height / 10 + height % 10 + "-", above ? NONE : 0, above ? NONE : 4);
            }
        }
        DareBridge y = Made.highs(9, 5, 3);
        // B's high grows by what it does, not by what it refuses.
        judged(y, "AB06+AB06-", 1, 4);
        judged(y, "AB06+AB07-", NONE, NONE);
        judged(y, "AB06-AB06-", NONE, NONE);
        judged(y, "AB06*BA06-", 1, 4);
        judged(y, "AB06*BA07-", NONE, NONE);
    }

    private static void theLeastOfReasons() {
        judged(wet(6), "AB05+BB15-", 1, 1);
        judged(wet(6), "AB05+BF15-", 1, 1);
        judged(wet(6), "AB05+FB01-", 1, 1);
        judged(wet(6), "AF15-", 0, 1);
        judged(wet(6), "AA01-", 0, 1);
        judged(wet(6), "AB05+AB15-", 1, 2);
        judged(wet(6), "AB05+AB01-", 1, 2);
        judged(wet(6), "AB05+BC15-", 1, 2);
        judged(wet(6), "AB05+BC01-", 1, 2);
        // More than 3 and 2, not above 9.
        judged(Made.highs(9, 3, 9), "AB06-", 0, 3);
        judged(Made.highs(9, 3, 9), "AB09-", 0, 3);
        judged(Made.highs(9, 3, 9), "AB05-", 0, 4);
        judged(Made.highs(9, 3, 9), "AB10-", 0, 3);
    }

    private static void theFirstEventThatCanNotBe() {
        DareBridge x = Made.highs(9, 3, 3);
        judged(x, "AB06-AA01-", 0, 3);
        judged(x, "AB05-AA01-AB06-", 1, 1);
        judged(x, "AB05-AB05-AB03-AA01-", 2, 4);
        // What can not be leaves nothing behind that would let the next one be.
        judged(x, "AB05+AB05+BA07+", 1, 4);
    }

    private static void eventsAreCountedFromZero() {
        DareBridge x = Made.highs(9, 3, 3);
        judged(x, "AA01-", 0, 1);
        judged(x, ".AA01-", 1, 1);
        judged(x, ".".repeat(55) + "AA01-", 55, 1);
        judged(x, "AB05-".repeat(11) + "AA01-", 11, 1);
        judged(x, "AB05-".repeat(12), NONE, NONE);
        judged(x, ".".repeat(60), NONE, NONE);
        judged(x, "", NONE, NONE);
    }

    private static void whatOfJudge() {
        for (int what : new int[] {-1, 5, Integer.MIN_VALUE, Integer.MAX_VALUE}) {
            Due.refused("judge " + what, Made::town, x -> x.judge(what), O);
            Due.refused("judge " + what + " of a fault", Made::townOfFault, x -> x.judge(what), O);
            Due.refused("judge " + what + " of what can not be", Made::townThatCanNotBe, x -> x.judge(what), O);
        }
        int[] due = {NONE, NONE, 1, 0, 1};
        for (int what = 0; what <= 4; what++) {
            int w = what;
            Due.refused("judge " + what, Made::town, x -> x.judge(w), due[what]);
        }
    }

    private static void judgeOfAFault() {
        for (int what = 0; what <= 4; what++) {
            int w = what;
            Due.refused("judge " + what + " of a fault", Made::townOfFault, x -> x.judge(w), NO);
            Due.refused("judge " + what + " of both", Made::townThatCanNotBeOfFault, x -> x.judge(w), NO);
        }
        DareBridge x = Made.highs(9, 3, 3);
        Due.say(x, "AB05");
        Due.is("a sign is missing", x.judge(2), NO);
        x.say('+');
        Due.is("none is", x.judge(2), 1);
        x.say('!');
        Due.is("one is too many", x.judge(2), NO);
    }

    private static void judgeOfWhatCanNotBe() {
        int[] due = {3, 1, S, S, S};
        for (int what = 0; what <= 4; what++) {
            int w = what;
            Due.refused("judge " + what + " of what can not be", Made::townThatCanNotBe, x -> x.judge(w), due[what]);
        }
    }

    private static void countsAre(String text, int done, int refused, int doubled) {
        DareBridge x = Made.highs(9, 0, 0);
        x.set(0, 9);
        Due.say(x, text);
        Due.is(text + ": done", x.judge(2), done);
        Due.is(text + ": refused", x.judge(3), refused);
        Due.is(text + ": doubled", x.judge(4), doubled);
    }

    private static void countsOfNoneAndOfTwelve() {
        countsAre("", 0, 0, 0);
        countsAre("...", 0, 0, 0);
        countsAre("AB01+", 1, 0, 0);
        countsAre("AB01-", 0, 1, 0);
        countsAre("AB01*", 0, 0, 1);
        countsAre("AB01-".repeat(12), 0, 12, 0);
        StringBuilder plus = new StringBuilder();
        StringBuilder star = new StringBuilder();
        for (int h = 1; h <= 12; h++) {
            char darer = h % 2 == 1 ? 'A' : 'B', dared = h % 2 == 1 ? 'B' : 'A';
            plus.append(darer).append(dared).append(h / 10).append(h % 10).append('+');
            // No higher than what is of ODDS 0, or one would be hurt.
            star.append("AB").append(Math.min(h, 10) / 10).append(Math.min(h, 10) % 10).append(h <= 10 ? '*' : '-');
        }
        countsAre(plus.substring(0, 50), 10, 0, 0);
        countsAre(star.substring(0, 50), 0, 0, 10);
    }

    private static void whoAndWhatOfState() {
        DareBridge x = Made.town();
        Due.is("fame of E", x.state(4, 0), 999);
        Due.is("high of E", x.state(4, 1), 5);
        Due.is("plaster of A", x.state(0, 2), 8);
        for (int who : Made.NOBODY) {
            for (int what = -1; what <= 3; what++) {
                int w = what;
                Due.refused("state " + who + " " + what, Made::town, y -> y.state(who, w), U);
            }
        }
        for (int what : new int[] {-1, 3, Integer.MIN_VALUE, Integer.MAX_VALUE}) {
            Due.refused("state 0 " + what, Made::town, y -> y.state(0, what), O);
            Due.refused("state 4 " + what, Made::town, y -> y.state(4, what), O);
        }
        Due.is("state heeds no fault", Made.townOfFault().state(0, 0), 1004);
        Due.is("state heeds no text", Made.townThatCanNotBe().state(0, 0), 1004);
    }

    private static void whoAndWhatOfBehind() {
        for (Supplier<DareBridge> made : Made.texts()) {
            for (int who : Made.NOBODY) {
                for (int what = -1; what <= 3; what++) {
                    int w = what;
                    Due.refused("behind " + who + " " + what, made, x -> x.behind(who, w), U);
                }
            }
            for (int what : new int[] {-1, 3, Integer.MIN_VALUE, Integer.MAX_VALUE}) {
                Due.refused("behind 4 " + what, made, x -> x.behind(4, what), O);
            }
        }
        for (int what = 0; what <= 2; what++) {
            int w = what;
            Due.refused("behind of a fault", Made::townOfFault, x -> x.behind(0, w), NO);
            Due.refused("behind of both", Made::townThatCanNotBeOfFault, x -> x.behind(0, w), NO);
            Due.refused("behind of what can not be", Made::townThatCanNotBe, x -> x.behind(0, w), S);
            int[] due = {1015, 9, 8};
            Due.refused("behind changes nothing", Made::town, x -> x.behind(2, w), due[w]);
        }
    }

    private static void behindIsAsBehindDone() {
        DareBridge x = Made.town();
        int[] was = new int[15];
        for (int i = 0; i < 15; i++) {
            was[i] = x.behind(i / 3, i % 3);
        }
        Due.is("three events", x.done(), 3);
        for (int i = 0; i < 15; i++) {
            Due.is("state as it was told of " + i / 3 + " " + i % 3, x.state(i / 3, i % 3), was[i]);
            Due.is("behind nothing", x.behind(i / 3, i % 3), was[i]);
        }
    }

    private static void doneOfNothingAndOfSixty() {
        Due.refused("done of nothing", DareBridge::new, x -> x.done(), 0);
        DareBridge x = Made.highs(9, 3, 3);
        Due.is("done of no text", x.done(), 0);
        Due.is("sixty nights", saying(x, ".".repeat(60)).done(), 60);
        Due.is("no signs then", x.told(0), 0);
        Due.is("no fault then", x.fault(), NONE);
        Due.is("twelve dares", saying(x, "AB05-".repeat(12)).done(), 12);
        Due.is("fame then", x.state(1, 0), 976);
        Due.is("one night", saying(x, ".").done(), 1);
        Due.is("x without a draw", x.told(8), 1);
        Due.is("one dare", saying(x, "AB05+").done(), 1);
        Due.is("x behind a draw", x.told(8), 149);
        Due.is("the same again can not be", saying(x, "AB05+").done(), S);
    }

    private static void doneIsRefused() {
        Due.refused("done of a fault", Made::townOfFault, x -> x.done(), NO);
        Due.refused("done of both", Made::townThatCanNotBeOfFault, x -> x.done(), NO);
        Due.refused("done of what can not be", Made::townThatCanNotBe, x -> x.done(), S);
        Due.refused("done where nobody is", () -> saying(new DareBridge(), "AB01+"), x -> x.done(), S);
        Due.is("signs stay", Made.townThatCanNotBe().wipe(), 16);
    }

    private static void tiesAre(String text, int two, int many) {
        DareBridge x = Made.highs(9, 3, 3, 3, 3, 3, 3);
        Due.say(x, text);
        Due.is(text + ": the two", x.ties(0), two);
        Due.is(text + ": how many", x.ties(1), many);
    }

    private static void tiesOfNoDares() {
        tiesAre("", NONE, NONE);
        tiesAre(".", NONE, NONE);
        tiesAre(".".repeat(60), NONE, NONE);
        tiesAre("AB05-", 1, 1);
        Due.is("none where nobody is", new DareBridge().ties(0), NONE);
    }

    private static void theLeastOfSeveralTies() {
        tiesAre("BA04-AB04-", 1, 1);
        tiesAre("BC04-BA04-", 10, 1);
        tiesAre("FA04-AF04-", 5, 1);
        tiesAre("FE04-EF04-", 45, 1);
        tiesAre("BA04-AB04-BA04-", 10, 2);
        tiesAre("AB04-BA04-BA04-AB04-", 1, 2);
        // One way round is another two.
        tiesAre("AB04-BA04-CD04-CD04-", 23, 2);
        tiesAre("AB04-".repeat(6) + "CD04-".repeat(6), 1, 6);
        tiesAre("AB04-".repeat(5) + "CD04-".repeat(7), 23, 7);
        tiesAre("AB04+.AB05*.AB06-", 1, 3);
    }

    private static void tiesOfTheFirstAndTheLastTwo() {
        tiesAre("AB04-".repeat(12), 1, 12);
        tiesAre("FE04-".repeat(12), 54, 12);
        for (int p = 0; p < 6; p++) {
            for (int q = 0; q < 6; q++) {
                if (p != q) {
                    tiesAre("" + "ABCDEF".charAt(p) + "ABCDEF".charAt(q) + "05*", 10 * p + q, 1);
                }
            }
        }
    }

    private static void whatOfTies() {
        for (Supplier<DareBridge> made : Made.texts()) {
            for (int what : new int[] {-1, 2, Integer.MIN_VALUE, Integer.MAX_VALUE}) {
                Due.refused("ties " + what, made, x -> x.ties(what), O);
            }
        }
        for (int what = 0; what <= 1; what++) {
            int w = what;
            Due.refused("ties of a fault", Made::townOfFault, x -> x.ties(w), NO);
            Due.refused("ties of both", Made::townThatCanNotBeOfFault, x -> x.ties(w), NO);
            Due.refused("ties of what can not be", Made::townThatCanNotBe, x -> x.ties(w), S);
            Due.refused("ties", Made::town, x -> x.ties(w), w == 0 ? 32 : 1);
        }
    }

    private static void unhurtIs(DareBridge x, String text, long upper, long lower) {
        saying(x, text);
        Due.is(text + ": unhurt, upper", x.unhurt(0), upper);
        Due.is(text + ": unhurt, lower", x.unhurt(1), lower);
    }

    private static void unhurtOfNothing() {
        unhurtIs(new DareBridge(), "", 1, 1);
        unhurtIs(new DareBridge(), ".".repeat(60), 1, 1);
        unhurtIs(Made.highs(0, 3, 3), "AB05-".repeat(12), 1, 1);
        unhurtIs(Made.highs(9, 3, 3), "AB05+", 1, 1);
        unhurtIs(Made.highs(0, 3, 3), "AB05+", 4, 5);
    }

    private static void unhurtOfFifteenAndSixteen() {
        String seven = "AB01*.AB02*.AB03*.AB04*.AB05*.AB06*.AB07*.";
        DareBridge x = Made.highs(0, 0, 0);
        x.set(0, 9);
        x.set(4, 1);
        // Twice 10, 9, 9, 8, 8, 7, 7 tenths; and 6 tenths.
        unhurtIs(x, seven + "AB08-", 15752961, 244140625);
        unhurtIs(x, seven + "AB08+", 47258883, 1220703125);
        unhurtIs(x, seven + "AB08*", GONE + F, GONE + F);
        unhurtIs(x, seven + "AB08+AA01-", GONE + S, GONE + S);
        unhurtIs(x, seven + "AB08*.AA01-", GONE + S, GONE + S);
        unhurtIs(x, seven + "AB08*.A", GONE + NO, GONE + NO);
        DareBridge y = Made.highs(9, 0, 0);
        y.set(0, 9);
        String many = seven.replace(".", "");
        unhurtIs(y, many + "AB08+", 1, 1);
        unhurtIs(y, many + "AB08+AB09-AB09-.", 1, 1);
        unhurtIs(y, many + "AB08*", GONE + F, GONE + F);
        unhurtIs(y, many + "AB08+AB09+", GONE + F, GONE + F);
        unhurtIs(y, many + "AB08*AB09*AB10*", GONE + F, GONE + F);
        Supplier<DareBridge> full = () -> saying(twoOfStepNine(), many + "AB08*");
        Due.refused("unhurt of sixteen", full, z -> z.unhurt(0), GONE + F);
        Due.refused("unhurt of sixteen, part 2", full, z -> z.unhurt(2), GONE + O);
        Due.is("sixteen are done all the same", full.get().done(), 8);
    }

    private static DareBridge twoOfStepNine() {
        DareBridge x = Made.highs(9, 0, 0);
        x.set(0, 9);
        return x;
    }

    private static void unhurtOfNoneAtAll() {
        DareBridge x = Made.highs(0, 9, 9);
        x.set(0, 6);
        x.set(5, 1);
        // ODDS 9 at 14, 10 at 15.
        unhurtIs(x, "AB14+", 1, 10);
        unhurtIs(x, "AB14*", 1, 100);
        unhurtIs(x, "AB15+", 0, 1);
        unhurtIs(x, "AB15*", 0, 1);
        unhurtIs(x, "AB15-", 1, 1);
    }

    private static void unhurtWhateverWasDrawn() {
        // By 0 A is hurt at 5 in fact, and B does nothing; by 1 neither is; by chance both do it, a half each.
        for (int seed = 0; seed <= 1; seed++) {
            DareBridge x = wet(6);
            x.set(6, seed);
            unhurtIs(x, "AB05*", 1, 4);
            unhurtIs(x, "AB05+", 1, 2);
        }
    }

    private static void partsOfUnhurt() {
        for (Supplier<DareBridge> made : Made.texts()) {
            for (int part : new int[] {-1, 2, Integer.MIN_VALUE, Integer.MAX_VALUE}) {
                Due.refused("unhurt " + part, made, x -> x.unhurt(part), GONE + O);
            }
        }
        for (int part = 0; part <= 1; part++) {
            int k = part;
            Due.refused("unhurt of a fault", Made::townOfFault, x -> x.unhurt(k), GONE + NO);
            Due.refused("unhurt of both", Made::townThatCanNotBeOfFault, x -> x.unhurt(k), GONE + NO);
            Due.refused("unhurt of what can not be", Made::townThatCanNotBe, x -> x.unhurt(k), GONE + S);
        }
    }
}
