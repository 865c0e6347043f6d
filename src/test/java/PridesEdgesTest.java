import java.util.Arrays;
import java.util.List;
import java.util.function.Supplier;

/** The boundaries of promises 22 to 33, each from both sides: who says enough, who refuses, prides, years, images. */
public final class PridesEdgesTest {
    private static final int U = DareBridge.UNKNOWN, O = DareBridge.OUTSIDE, S = DareBridge.STATE;
    private static final int F = DareBridge.FULL, NONE = DareBridge.NONE;
    private static final int[] NO_HEIGHT = {0, 16, -1, Integer.MIN_VALUE, Integer.MAX_VALUE};

    public static void main(String[] args) {
        halfThePrideIsNoMoreThanHowMany();
        whoHasAWishDoesNotJoin();
        roundsEndWhenNobodyJoins();
        whoSaysEnough();
        itHoldsByMoreThanHalf();
        wonByTheFewest();
        wonByNobody();
        wonByWhoHasNoWish();
        wonByTheLeastOfAsFew();
        whatOfWon();
        refuserIsAnother();
        refuserHasNotBeenSoHigh();
        refuserIsNotInPlaster();
        refuserIsByWorth();
        whoAndHeightOfRefuser();
        likelyIsZeroToTen();
        whoAndHeightOfLikely();
        sixSights();
        whoAndWhatIsSeen();
        forgetOfNoneAndOfSix();
        pridesOfNoSights();
        pridesByWhatWasSeen();
        pridesThatDoNotFit();
        pridesOfOneOnly();
        whoAndWhatOfPrides();
        seedsOfYears();
        daresOfYears();
        whatOfYear();
        yearIsFifteenAtMost();
        yearOfWhatCanNotBe();
        nightsOfYears();
        imagesAreTwo();
        restoreOfWhatWasNotKept();
        anImageKeepsAllButThePad();
        anImageIsKeptAnew();
        toldOfAll();
        Due.end();
    }

    private static void halfThePrideIsNoMoreThanHowMany() {
        // A says it, the ones behind B join at once: as many as told; then B by its pride.
        for (int many = 1; many <= 5; many++) {
            for (int pride = 0; pride <= 9; pride++) {
                DareBridge x = new DareBridge();
                x.person(0, 0, 0, 9, false);
                x.person(1, 0, 0, pride, false);
                for (int p = 2; p <= many; p++) {
                    x.person(p, 0, 0, 0, false);
                }
                int said = (1 << many + 1) - 1 - 2;
                boolean joins = pride <= 2 * many + 1;
                Due.is(many + " draw one of pride " + pride, x.enough(0), joins ? said + 2 : said);
            }
        }
    }

    private static void whoHasAWishDoesNotJoin() {
        DareBridge x = new DareBridge();
        for (int p = 0; p < 6; p++) {
            x.person(p, 0, 0, 0, p % 2 == 1);
        }
        Due.is("three of six", x.enough(0), 21);
        Due.is("one with a wish says it, too", x.enough(1), 23);
        Due.is("the last one with a wish", x.enough(5), 53);
        DareBridge y = new DareBridge();
        y.person(5, 0, 0, 9, true);
        Due.is("one with a wish alone", y.enough(5), 32);
    }

    private static void roundsEndWhenNobodyJoins() {
        int[][] chains = {{9, 9, 9, 7, 5, 3, 63}, {9, 9, 9, 7, 5, 4, 1}, {9, 9, 9, 7, 6, 3, 33}, {9, 9, 9, 8, 5, 3, 49},
            {9, 8, 9, 7, 5, 2, 63}, {0, 3, 5, 7, 9, 9, 63}, {0, 4, 5, 7, 9, 9, 1}};
        for (int[] chain : chains) {
            DareBridge x = new DareBridge();
            for (int p = 0; p < 6; p++) {
                x.person(p, 0, 0, chain[p], false);
            }
            Due.is("enough of a chain", x.enough(0), chain[6]);
        }
    }

    private static void whoSaysEnough() {
        for (int who : Made.NOBODY) {
            Due.refused("enough of " + who, Made::town, x -> x.enough(who), U);
            Due.refused("holds of " + who, Made::town, x -> x.holds(who), U);
        }
        DareBridge x = new DareBridge();
        for (int p = 0; p < 6; p++) {
            Due.is("enough of who is not there", x.enough(p), U);
            Due.is("holds of who is not there", x.holds(p), U);
            x.person(p, 0, 0, 9, false);
        }
        for (int p = 0; p < 6; p++) {
            Due.is("enough of " + p + " alone", x.enough(p), 1 << p);
        }
        Due.refused("enough changes nothing", Made::town, y -> y.enough(4), 18);
    }

    private static void itHoldsByMoreThanHalf() {
        for (int there = 1; there <= 6; there++) {
            for (int said = 1; said <= there; said++) {
                DareBridge x = new DareBridge();
                for (int p = 0; p < there; p++) {
                    x.person(p, 0, 0, 0, p >= said);
                }
                Due.is(said + " of " + there, x.holds(0), 2 * said > there ? 1 : 0);
                // It counts itself, be it too proud to join or of a wish.
                x.person(0, 0, 0, 9, said % 2 == 0);
                Due.is(said + " of " + there + " by a proud one", x.holds(0), 2 * said > there ? 1 : 0);
            }
        }
    }

    private static void wonIs(DareBridge x, int many, int which) {
        Due.is("won by how many", x.won(0), many);
        Due.is("won by whom", x.won(1), which);
    }

    private static void wonByTheFewest() {
        int[] many = {1, 2, 2, 3, 3, 4};
        DareBridge x = new DareBridge();
        for (int p = 0; p < 6; p++) {
            x.person(p, 0, 0, 9, false);
            wonIs(x, many[p], (1 << many[p]) - 1);
        }
        // Of pride 7 the last one needs three, who are half of six.
        x.person(5, 0, 0, 7, false);
        wonIs(x, 3, 7);
        x.person(5, 0, 0, 8, false);
        wonIs(x, 4, 15);
        DareBridge y = Made.skilled(6);
        wonIs(y, 1, 1);
    }

    private static void wonByNobody() {
        wonIs(new DareBridge(), NONE, NONE);
        for (int there = 1; there <= 6; there++) {
            for (int wishes = 0; wishes <= there; wishes++) {
                DareBridge x = new DareBridge();
                for (int p = 0; p < there; p++) {
                    x.person(p, 0, 0, 0, p >= there - wishes);
                }
                boolean won = 2 * (there - wishes) > there;
                wonIs(x, won ? 1 : NONE, won ? 1 : NONE);
            }
        }
    }

    private static void wonByWhoHasNoWish() {
        DareBridge x = new DareBridge();
        x.person(0, 0, 0, 0, true);
        wonIs(x, NONE, NONE);
        x.person(1, 0, 0, 9, false);
        wonIs(x, NONE, NONE);
        x.person(2, 0, 0, 9, false);
        wonIs(x, 2, 6);
        x.person(2, 0, 0, 3, false);
        wonIs(x, 1, 2);
        // A has a wish: who would join it must be drawn by others.
        x.person(1, 0, 0, 4, false);
        x.person(2, 0, 0, 4, false);
        wonIs(x, 2, 6);
    }

    private static void wonByTheLeastOfAsFew() {
        DareBridge x = new DareBridge();
        x.person(0, 0, 0, 9, false);
        x.person(2, 0, 0, 3, false);
        x.person(5, 0, 0, 9, false);
        // A draws C, and F draws C; C draws nobody.
        wonIs(x, 1, 1);
        x.person(0, 0, 0, 9, true);
        wonIs(x, 1, 32);
        x.person(5, 0, 0, 3, false);
        wonIs(x, 1, 4);
        DareBridge y = new DareBridge();
        for (int p = 1; p < 6; p++) {
            y.person(p, 0, 0, p == 5 ? 5 : 9, false);
        }
        // Two of B to E draw F, and three of five are more than half: B and C, as 6 is least; with F it would be 34.
        wonIs(y, 2, 6);
        y.leave(1);
        // D and E, too, as F itself draws nobody.
        wonIs(y, 2, 12);
    }

    private static void whatOfWon() {
        for (int what : new int[] {-1, 2, Integer.MIN_VALUE, Integer.MAX_VALUE}) {
            Due.refused("won " + what, Made::town, x -> x.won(what), O);
            Due.refused("won " + what + " where nobody is", DareBridge::new, x -> x.won(what), O);
        }
        Due.refused("won changes nothing", Made::town, x -> x.won(1), 1);
    }

    /** Of the people told, without skill and pride: they refuse from 2 on. */
    private static DareBridge timid(int start, int people) {
        DareBridge x = new DareBridge();
        x.set(1, start);
        for (int p = 0; p < people; p++) {
            x.person(p, 0, 0, 0, false);
        }
        return x;
    }

    private static void refuserIsAnother() {
        Due.is("nobody else is there", timid(3, 1).refuser(0, 15), NONE);
        Due.is("the other one", timid(3, 2).refuser(0, 15), 1);
        for (int p = 0; p < 6; p++) {
            Due.is("the least but " + p, timid(3, 6).refuser(p, 4), p == 0 ? 1 : 0);
        }
        DareBridge x = timid(3, 6);
        for (int p = 1; p < 5; p++) {
            x.leave(p);
            Due.is("the least left", x.refuser(0, 4), p + 1);
        }
        x.leave(5);
        Due.is("none is left", x.refuser(0, 4), NONE);
    }

    private static void refuserHasNotBeenSoHigh() {
        for (int start : new int[] {2, 3, 9}) {
            DareBridge x = timid(start, 2);
            Due.is("high is as much", x.refuser(0, start), NONE);
            Due.is("high is more", x.refuser(0, start - 1), NONE);
            Due.is("high is below", x.refuser(0, start + 1), 1);
            Due.is("high is well below", x.refuser(0, 15), 1);
        }
        Due.is("high is 0, and 1 is done", timid(0, 2).refuser(0, 1), NONE);
        Due.is("high is 0, and 2 is not", timid(0, 2).refuser(0, 2), 1);
    }

    private static void refuserIsNotInPlaster() {
        for (int kept : new int[] {1, 2, 42}) {
            for (int nights = kept - 1; nights <= kept; nights++) {
                DareBridge x = timid(3, 2);
                x.set(4, kept);
                x.set(5, 1);
                x.set(6, 0);
                Due.say(x, "AB05+" + ".".repeat(nights));
                x.done();
                Due.is("nights left", x.state(1, 2), kept - nights);
                Due.is("refuser of KEPT " + kept, x.refuser(0, 6), nights == kept ? 1 : NONE);
                Due.is("A is not in plaster", x.refuser(1, 6), 0);
            }
        }
    }

    private static void refuserIsByWorth() {
        DareBridge x = Made.two(0, 0, 1);
        x.set(2, 30);
        Due.is("as much: it does it", x.refuser(0, 4), NONE);
        x.set(2, 31);
        Due.is("less: it refuses", x.refuser(0, 4), 1);
        x.person(2, 0, 0, 0, true);
        x.person(1, 9, 0, 0, false);
        Due.is("the next one, whatever it wishes", x.refuser(0, 4), 2);
    }

    private static void whoAndHeightOfRefuser() {
        for (int who : Made.NOBODY) {
            Due.refused("refuser of " + who, Made::town, x -> x.refuser(who, 1), U);
            Due.refused("refuser of " + who + " at 0", Made::town, x -> x.refuser(who, 0), U);
        }
        for (int height : NO_HEIGHT) {
            Due.refused("refuser at " + height, Made::town, x -> x.refuser(4, height), O);
        }
        Due.is("refuser at 1", timid(0, 2).refuser(0, 1), NONE);
        Due.is("refuser at 15", timid(9, 2).refuser(0, 15), 1);
    }

    private static void likelyIs(int skill, int wet, int cost, int height, int due) {
        DareBridge x = Made.two(skill, 0, 5);
        x.set(2, cost);
        x.set(5, wet);
        Due.is("likely by COST " + cost + " at " + height, x.likely(0, height), due);
        Due.is("pride stays", x.told(12), 5);
    }

    private static void likelyIsZeroToTen() {
        likelyIs(0, 0, 99, 1, 10);
        likelyIs(9, 0, 99, 10, 10);
        likelyIs(0, 0, 0, 15, 10);
        // At 4, of ODDS 2, 60 of each pride.
        likelyIs(0, 0, 1, 4, 9);
        likelyIs(0, 0, 30, 4, 9);
        likelyIs(0, 0, 31, 4, 8);
        likelyIs(0, 0, 60, 4, 8);
        likelyIs(0, 0, 61, 4, 7);
        // At 1, of ODDS 2, 10 of each.
        likelyIs(2, 1, 40, 1, 2);
        likelyIs(2, 1, 41, 1, 1);
        likelyIs(2, 1, 45, 1, 1);
        likelyIs(2, 1, 46, 1, 0);
        likelyIs(2, 1, 99, 1, 0);
    }

    private static void whoAndHeightOfLikely() {
        for (int who : Made.NOBODY) {
            Due.refused("likely of " + who, Made::town, x -> x.likely(who, 1), U);
            Due.refused("likely of " + who + " at 16", Made::town, x -> x.likely(who, 16), U);
        }
        for (int height : NO_HEIGHT) {
            Due.refused("likely at " + height, Made::town, x -> x.likely(4, height), O);
        }
        // ODDS 10, harm 15 and 30: 220 of each pride, so from 3 on.
        Due.refused("likely at 15", Made::town, x -> x.likely(1, 15), 7);
    }

    private static void sixSights() {
        for (int height : new int[] {1, 15}) {
            for (int did = 0; did <= 1; did++) {
                DareBridge x = Made.two(0, 0, 0);
                for (int n = 1; n <= 6; n++) {
                    Due.is("sight " + n, x.seen(n % 2, height, did), n);
                    Due.is("sights told", x.told(9), n);
                }
                Due.is("sight 7", x.seen(0, height, did), F);
                Due.is("six stay", x.told(9), 6);
            }
        }
        for (int p = 0; p < 5; p++) {
            int who = p;
            Due.refused("sight 7 of " + p, Made::townOfSixSights, x -> x.seen(who, 1, 0), F);
            Due.refused("sight 7 of " + p, Made::townOfSixSights, x -> x.seen(who, 15, 1), F);
        }
    }

    private static void whoAndWhatIsSeen() {
        for (Supplier<DareBridge> made : List.<Supplier<DareBridge>>of(Made::town, Made::townOfSixSights)) {
            for (int who : Made.NOBODY) {
                Due.refused("seen of " + who, made, x -> x.seen(who, 1, 1), U);
                Due.refused("seen of " + who + ", all outside", made, x -> x.seen(who, 0, 2), U);
            }
            for (int height : NO_HEIGHT) {
                Due.refused("seen at " + height, made, x -> x.seen(4, height, 0), O);
                Due.refused("seen at " + height, made, x -> x.seen(4, height, 1), O);
            }
            for (int did : new int[] {-1, 2, Integer.MIN_VALUE, Integer.MAX_VALUE}) {
                Due.refused("seen " + did, made, x -> x.seen(4, 1, did), O);
            }
        }
    }

    private static void forgetOfNoneAndOfSix() {
        Due.refused("forget of none", DareBridge::new, x -> x.forget(), 0);
        DareBridge x = Made.townOfSixSights();
        Due.is("forget of six", x.forget(), 6);
        Due.is("sights then", x.told(9), 0);
        Due.is("forget again", x.forget(), 0);
        Due.is("all prides fit", x.prides(3, 0), 10);
        Due.is("a sight again", x.seen(4, 15, 1), 1);
        Due.is("forget of one", x.forget(), 1);
    }

    private static void pridesAre(DareBridge x, int person, int many, int least, int greatest) {
        Due.is("prides", x.prides(person, 0), many);
        Due.is("the least", x.prides(person, 1), least);
        Due.is("the greatest", x.prides(person, 2), greatest);
    }

    private static void pridesOfNoSights() {
        DareBridge x = Made.two(0, 0, 5);
        pridesAre(x, 0, 10, 0, 9);
        x.seen(1, 4, 0);
        pridesAre(x, 0, 10, 0, 9);
        // What all do, of no ODDS, fits all.
        x.seen(0, 1, 1);
        pridesAre(x, 0, 10, 0, 9);
    }

    private static void pridesByWhatWasSeen() {
        // At 4, of ODDS 2: from COST 60 on it takes a pride of 2, from 61 on of 3.
        int[][] due = {{60, 1, 8, 2, 9}, {61, 1, 7, 3, 9}, {60, 0, 2, 0, 1}, {61, 0, 3, 0, 2}};
        for (int[] d : due) {
            DareBridge x = Made.two(0, 0, 5);
            x.set(2, d[0]);
            x.seen(0, 4, d[1]);
            pridesAre(x, 0, d[2], d[3], d[4]);
        }
    }

    private static void pridesThatDoNotFit() {
        DareBridge x = Made.two(0, 0, 5);
        x.set(2, 60);
        x.seen(0, 4, 1);
        for (int n = 2; n <= 5; n++) {
            x.seen(0, 4, 1);
        }
        pridesAre(x, 0, 8, 2, 9);
        // The last one of six, against all others.
        x.seen(0, 4, 0);
        pridesAre(x, 0, 0, NONE, NONE);
        pridesAre(x, 1, 10, 0, 9);
        DareBridge y = Made.two(0, 0, 5);
        y.seen(0, 1, 0);
        pridesAre(y, 0, 0, NONE, NONE);
    }

    private static void pridesOfOneOnly() {
        DareBridge x = Made.two(0, 0, 5);
        x.set(2, 36);
        // 3, of ODDS 1, takes 36 by 40 each; 4, of ODDS 2, 72 by 60 each.
        x.seen(0, 3, 1);
        x.seen(0, 4, 0);
        pridesAre(x, 0, 1, 1, 1);
        DareBridge y = Made.two(0, 0, 5);
        y.set(5, 1);
        y.seen(0, 1, 1);
        // Of ODDS 3, by 10 each.
        y.set(2, 30);
        pridesAre(y, 0, 1, 9, 9);
        y.set(2, 31);
        pridesAre(y, 0, 0, NONE, NONE);
        y.set(2, 0);
        pridesAre(y, 0, 10, 0, 9);
        y.forget();
        y.seen(0, 1, 0);
        y.set(2, 3);
        pridesAre(y, 0, 1, 0, 0);
        y.set(2, 99);
        pridesAre(y, 0, 10, 0, 9);
    }

    private static void whoAndWhatOfPrides() {
        for (int who : Made.NOBODY) {
            for (int what = -1; what <= 3; what++) {
                int w = what;
                Due.refused("prides of " + who, Made::town, x -> x.prides(who, w), U);
            }
        }
        for (int what : new int[] {-1, 3, Integer.MIN_VALUE, Integer.MAX_VALUE}) {
            Due.refused("prides " + what, Made::town, x -> x.prides(4, what), O);
        }
    }

    private static DareBridge six(int pride) {
        DareBridge x = new DareBridge();
        for (int p = 0; p < 6; p++) {
            x.person(p, 9, 0, pride, false);
        }
        return x;
    }

    private static void seedsOfYears() {
        for (int seed : new int[] {-1, 10000, Integer.MIN_VALUE, Integer.MAX_VALUE}) {
            for (int what = 0; what <= 2; what++) {
                int w = what;
                Due.refused("year by " + seed, Made::town, x -> x.year(seed, 1, w), O);
            }
        }
        // 74: C dares A. 29092, what is left over of 749999: E dares A. 65474: C dares E. 12: A dares C.
        int[][] twos = {{0, 2, 0}, {9999, 4, 0}, {872, 2, 4}, {873, 0, 2}};
        for (int[] two : twos) {
            for (int p = 0; p < 6; p++) {
                DareBridge x = six(9);
                Due.is("all are there", x.year(two[0], 1, 0), 1);
                x.leave(p);
                boolean can = p != two[1] && p != two[2];
                Due.is(p + " is not there", x.year(two[0], 1, 0), can ? 1 : 0);
            }
            DareBridge y = six(9);
            y.set(1, 9);
            y.person(two[1], 9, 0, 9, false);
            y.person(two[2], 0, 0, 0, false);
            Due.is("who is dared refuses", y.year(two[0], 1, 1), 1);
            Due.is("it does not do it", y.year(two[0], 1, 0), 0);
        }
    }

    private static void daresOfYears() {
        for (int n : new int[] {0, 100, -1, Integer.MIN_VALUE, Integer.MAX_VALUE}) {
            for (int what = 0; what <= 2; what++) {
                int w = what;
                Due.refused("year of " + n, Made::town, x -> x.year(1, n, w), O);
            }
        }
        Due.is("a year of one", six(9).year(0, 1, 0), 1);
        DareBridge x = new DareBridge();
        Due.is("a year of 99 without people", x.year(0, 99, 0), 0);
        DareBridge y = six(9);
        int[] of98 = {y.year(5, 98, 0), y.year(5, 98, 1)};
        int[] of99 = {y.year(5, 99, 0), y.year(5, 99, 1)};
        Due.is("no less done by 99", of99[0] >= of98[0] ? 1 : 0, 1);
        Due.is("one more at the most", of99[0] + of99[1] - of98[0] - of98[1] <= 1 ? 1 : 0, 1);
        for (int what = 0; what <= 2; what++) {
            int w = what;
            int[] due = {12, 0, 8};
            Due.refused("nothing is done in fact", Made::town, z -> z.year(1, 99, w), due[what]);
        }
    }

    private static void whatOfYear() {
        for (int what : new int[] {-1, 3, Integer.MIN_VALUE, Integer.MAX_VALUE}) {
            Due.refused("year " + what, Made::town, x -> x.year(0, 1, what), O);
        }
        for (int off = -1; off <= 10000; off += 10001) {
            int seed = off;
            Due.refused("year, all outside", Made::town, x -> x.year(seed, 0, 3), O);
        }
    }

    private static void yearIsFifteenAtMost() {
        // C, of 9, dares A 9 and STEP. A, of pride 1, does 15 by COST 73, would not do 16, and refuses 15 by 74.
        for (int step : new int[] {5, 6, 7, 9}) {
            DareBridge x = new DareBridge();
            x.set(0, step);
            x.set(2, 73);
            x.person(0, 9, 0, 1, false);
            x.set(1, 9);
            x.person(2, 9, 0, 1, false);
            Due.is("done by STEP " + step, x.year(0, 1, 0), 1);
            x.set(2, 74);
            Due.is("refused by STEP " + step, x.year(0, 1, 1), step == 5 ? 0 : 1);
        }
        // A has done 15: there is no more to dare it.
        DareBridge y = Made.highs(9, 9, 9, 9);
        y.set(0, 6);
        Due.say(y, "BA15+");
        y.done();
        Due.is("high of A", y.state(0, 1), 15);
        Due.is("done", y.year(0, 1, 0), 0);
        Due.is("refused", y.year(0, 1, 1), 0);
        DareBridge z = Made.highs(9, 9, 9, 9);
        z.set(0, 6);
        Due.say(z, "BA14+");
        z.done();
        Due.is("high of A", z.state(0, 1), 14);
        Due.is("done", z.year(0, 1, 0), 1);
    }

    private static void yearOfWhatCanNotBe() {
        // By 4 C dares itself.
        Due.is("one is no two", six(9).year(4, 1, 0), 0);
        Due.is("nor refused", six(0).year(4, 1, 1), 0);
        // A's high is as much as what C dares, or one less.
        DareBridge x = Made.highs(9, 5, 3, 3);
        Due.is("not above what was done", x.year(0, 1, 0), 0);
        DareBridge y = Made.highs(9, 4, 3, 3);
        Due.is("above what was done", y.year(0, 1, 0), 1);
        // A is in plaster for a night, and out of it.
        for (int nights = 5; nights <= 6; nights++) {
            DareBridge z = Made.highs(0, 3, 3, 9);
            z.set(5, 1);
            z.set(6, 0);
            Due.say(z, "BA05+" + ".".repeat(nights));
            z.done();
            z.set(5, 0);
            Due.is("in plaster for " + (6 - nights), z.year(0, 1, 0), nights - 5);
        }
    }

    private static DareBridge wild(int kept) {
        DareBridge x = new DareBridge();
        for (int p = 0; p < 6; p++) {
            x.person(p, p, 9 - p, 3 + p, false);
        }
        x.set(0, 1);
        x.set(4, kept);
        x.set(5, 1);
        return x;
    }

    /** Year by year one dare longer, beside summers that are done. */
    private static void nightsOfYears() {
        for (int kept = 1; kept <= 3; kept++) {
            for (int seed : new int[] {0, 7, 300, 9999}) {
                DareBridge year = wild(kept);
                DareBridge steps = wild(kept);
                int[] count = new int[3];
                int y = seed;
                for (int n = 1; n <= 34; n++) {
                    y = (75 * y + 74) % 65537;
                    step(steps, y % 6, y / 6 % 6, count);
                    for (int what = 0; what < 3; what++) {
                        Due.is("year of " + n + " by " + seed, year.year(seed, n, what), count[what]);
                    }
                    if (n % 3 == 0) {
                        steps.say('.');
                        steps.done();
                    }
                }
            }
        }
    }

    private static void step(DareBridge x, int darer, int dared, int[] count) {
        int height = Math.min(15, x.state(darer, 1) + 1);
        boolean does = x.does(dared, height) == 1;
        Due.say(x, "" + "ABCDEF".charAt(darer) + "ABCDEF".charAt(dared) + height / 10 + height % 10 + (does ? '+' : '-'));
        if (x.done() != 1) {
            x.wipe();
            return;
        }
        count[does ? 0 : 1]++;
        count[2] += does && x.state(dared, 2) > 0 ? 1 : 0;
    }

    private static void imagesAreTwo() {
        for (int n : new int[] {-1, 2, Integer.MIN_VALUE, Integer.MAX_VALUE}) {
            Due.refused("image " + n, Made::town, x -> x.image(n), O);
            Due.refused("image " + n + " of a new one", DareBridge::new, x -> x.image(n), O);
            Due.refused("restore " + n, Made::town, x -> x.restore(n), O);
            Due.refused("restore " + n + " of a new one", DareBridge::new, x -> x.restore(n), O);
        }
        for (int n = 0; n <= 1; n++) {
            Due.is("image " + n, new DareBridge().image(n), 1);
            Due.is("restore " + n, Made.town().restore(n), 1);
        }
    }

    private static void restoreOfWhatWasNotKept() {
        for (int kept = 0; kept <= 1; kept++) {
            int n = kept;
            Due.refused("restore of none", DareBridge::new, x -> x.restore(n), S);
            Supplier<DareBridge> other = () -> {
                DareBridge x = Made.skilled(3);
                x.image(1 - n);
                x.leave(0);
                return x;
            };
            Due.refused("restore of the other one", other, x -> x.restore(n), S);
            DareBridge y = other.get();
            Due.is("restore of that which was kept", y.restore(1 - n), 1);
            Due.is("as it was", y.told(1), 7);
            Due.is("the other one is not kept by it", y.restore(n), S);
            Due.is("it stays kept", y.restore(1 - n), 1);
        }
    }

    private static void anImageKeepsAllButThePad() {
        for (int kept = 0; kept <= 1; kept++) {
            DareBridge x = Made.townOfSixSights();
            DareBridge y = Made.townOfSixSights();
            x.image(kept);
            y.image(kept);
            Due.is("done", x.done(), 3);
            x.forget();
            for (int n = 0; n <= 4; n++) {
                x.seen(2, 14 + n % 2, n % 2);
            }
            for (int which = 0; which < 7; which++) {
                x.set(which, 1);
            }
            x.leave(0);
            x.person(1, 9, 9, 9, true);
            x.person(5, 9, 9, 9, true);
            Due.say(x, "AB");
            Due.is("restore", x.restore(kept), 1);
            Due.is("the pad is as it is", x.wipe(), 2);
            y.wipe();
            Due.same("restored", Look.at(x), Look.at(y));
        }
    }

    private static void anImageIsKeptAnew() {
        DareBridge x = new DareBridge();
        x.person(0, 0, 0, 0, false);
        x.image(0);
        x.person(1, 0, 0, 0, false);
        x.image(1);
        x.person(2, 0, 0, 0, false);
        x.image(0);
        x.person(3, 0, 0, 0, false);
        Due.is("restore 1", x.restore(1), 1);
        Due.is("people of 1", x.told(1), 3);
        Due.is("restore 0", x.restore(0), 1);
        Due.is("people of 0, kept anew", x.told(1), 7);
        x.leave(1);
        x.image(1);
        x.restore(0);
        Due.is("people of 0 again", x.told(1), 7);
        x.restore(1);
        Due.is("people of 1, kept anew", x.told(1), 5);
    }

    private static void toldOfAll() {
        int[] due = new int[100];
        Arrays.fill(due, O);
        int[] first = {11, 31, 4, 5, 15, 2, 9, 1, 51790, 3};
        System.arraycopy(first, 0, due, 0, 10);
        int[][] people = {{5, 1, 7, 0}, {0, 2, 3, 0}, {9, 3, 4, 1}, {8, 4, 9, 0}, {7, 0, 1, 0}};
        for (int p = 0; p < 5; p++) {
            System.arraycopy(people[p], 0, due, 10 + 10 * p, 4);
        }
        for (int what = 0; what < 100; what++) {
            Due.is("told " + what, Made.town().told(what), due[what]);
        }
        for (int what : new int[] {-1, -2, -9, -10, -11, 14, 19, 24, 54, 59, 60, 63, 64, 70, 73, 110, 1000, 1073741834,
            Integer.MIN_VALUE, Integer.MIN_VALUE + 8, Integer.MAX_VALUE}) {
            Due.refused("told " + what, Made::town, x -> x.told(what), O);
        }
        DareBridge x = Made.skilled(6);
        Due.is("told of F", x.told(60), 9);
        Due.is("told of F's wish", x.told(63), 0);
        Due.is("told of F, one more", x.told(64), O);
        Due.is("told of one behind F", x.told(70), O);
        x.leave(5);
        Due.is("told of F, who left", x.told(60), O);
    }
}
