import java.util.function.Supplier;

/** The boundaries of promises 1 to 7, each from both sides: people, what is set, the pad and its fault. */
public final class PeopleEdgesTest {
    private static final int U = DareBridge.UNKNOWN, O = DareBridge.OUTSIDE, F = DareBridge.FULL, NONE = DareBridge.NONE;
    private static final int[] LEAST = {1, 0, 0, 0, 1, 0, 0};
    private static final int[] MOST = {9, 9, 99, 9, 42, 1, 9999};
    private static final int[] FIRST = {2, 3, 20, 1, 6, 0, 1};

    public static void main(String[] args) {
        nobodyIsThereAtFirst();
        peopleAreZeroToFive();
        skillFearAndPrideAreZeroToNine();
        whoComesAnewIsNotCountedTwice();
        whoComesHasStartAndNoFameAndNoPlaster();
        startIsForThoseWhoCome();
        whoWasNotThereCanNotLeave();
        whoLeavesTakesNobodyAlong();
        whatIsSetHasALeastAndAMost();
        whichIsZeroToSix();
        setOfSixAnswersX();
        stepIsOneToNine();
        startIsZeroToNine();
        costIsZeroToNinetyNine();
        fadeIsZeroToNine();
        keptIsOneToFortyTwo();
        wetIsZeroOrOne();
        seedIsZeroToNineThousandNineHundredNinetyNine();
        signsAre33To126();
        thePadHoldsSixty();
        outsideIsAheadOfFull();
        wipeEmptiesThePad();
        everySignAtEveryPlace();
        faultIsTheFirst();
        faultOfAFullPad();
        theFiveHundredAndTwelfthCall();
        Due.end();
    }

    private static void nobodyIsThereAtFirst() {
        Due.is("people of a new object", new DareBridge().told(1), 0);
        for (int p = 0; p < 6; p++) {
            Due.is("state of " + p + " in a new object", new DareBridge().state(p, 1), U);
            Due.is("leave of " + p + " in a new object", new DareBridge().leave(p), U);
            Due.is(p + " is the first to come", new DareBridge().person(p, 0, 0, 0, false), 1);
        }
        for (int what = 0; what < 7; what++) {
            Due.is("at first: " + what, new DareBridge().told(2 + what), FIRST[what]);
        }
        Due.is("no sights at first", new DareBridge().told(9), 0);
        Due.is("no signs at first", new DareBridge().told(0), 0);
        Due.is("no image 0 at first", new DareBridge().restore(0), DareBridge.STATE);
        Due.is("no image 1 at first", new DareBridge().restore(1), DareBridge.STATE);
    }

    private static void peopleAreZeroToFive() {
        DareBridge x = new DareBridge();
        for (int p = 0; p <= 5; p++) {
            Due.is("person " + p, x.person(p, 1, 2, 3, true), p + 1);
            Due.is("people up to " + p, x.told(1), (2 << p) - 1);
        }
        for (int p : new int[] {-1, 6, 7, 32, 33, -32, Integer.MIN_VALUE, Integer.MAX_VALUE}) {
            Due.refused("person " + p, Made::town, y -> y.person(p, 1, 2, 3, true), U);
            Due.refused("person " + p + ", all outside", Made::town, y -> y.person(p, 10, -1, 10, true), U);
            Due.refused("person " + p + " where nobody is", DareBridge::new, y -> y.person(p, 0, 0, 0, false), U);
        }
    }

    private static void skillFearAndPrideAreZeroToNine() {
        for (int v = 0; v <= 9; v += 9) {
            DareBridge x = new DareBridge();
            Due.is("skill " + v, x.person(0, v, 5, 4, false), 1);
            Due.is("fear " + v, x.person(1, 5, v, 4, true), 2);
            Due.is("pride " + v, x.person(5, 5, 4, v, false), 3);
            Due.is("skill told", x.told(10), v);
            Due.is("fear told", x.told(21), v);
            Due.is("pride told", x.told(62), v);
        }
        for (int v : new int[] {-1, 10, Integer.MIN_VALUE, Integer.MAX_VALUE}) {
            for (int p : new int[] {0, 5}) {
                Due.refused(p + " of skill " + v, Made::town, x -> x.person(p, v, 5, 5, true), O);
                Due.refused(p + " of fear " + v, Made::town, x -> x.person(p, 5, v, 5, true), O);
                Due.refused(p + " of pride " + v, Made::town, x -> x.person(p, 5, 5, v, true), O);
            }
        }
    }

    private static void whoComesAnewIsNotCountedTwice() {
        DareBridge x = Made.skilled(5);
        Due.is("the sixth", x.person(5, 0, 0, 0, false), 6);
        for (int p = 0; p < 6; p++) {
            Due.is("anew " + p, x.person(p, 1, 2, 3, true), 6);
        }
        Due.is("all six", x.told(1), 63);
        Due.is("anew: skill", x.told(60), 1);
        Due.is("anew: fear", x.told(61), 2);
        Due.is("anew: pride", x.told(62), 3);
        Due.is("anew: wish", x.told(63), 1);
        DareBridge y = new DareBridge();
        Due.is("the first", y.person(3, 0, 0, 0, false), 1);
        Due.is("the first anew", y.person(3, 0, 0, 0, false), 1);
    }

    private static void whoComesHasStartAndNoFameAndNoPlaster() {
        DareBridge x = Made.two(0, 0, 9);
        x.set(0, 3);
        x.set(5, 1);
        x.set(6, 0);
        // B does 5 and is hurt; A, who refuses, has less than no fame.
        Due.say(x, "AB05+......BA06-");
        x.done();
        Due.is("fame of A", x.state(0, 0), 997);
        Due.is("high of B", x.state(1, 1), 5);
        Due.say(x, "AB06+");
        x.done();
        Due.is("B is in plaster", x.state(1, 2), 6);
        x.person(0, 0, 0, 9, false);
        x.leave(1);
        x.person(1, 0, 0, 9, false);
        for (int p = 0; p < 2; p++) {
            Due.is("come: fame of " + p, x.state(p, 0), 1000);
            Due.is("come: high of " + p, x.state(p, 1), 3);
            Due.is("come: plaster of " + p, x.state(p, 2), 0);
        }
    }

    private static void startIsForThoseWhoCome() {
        DareBridge x = Made.skilled(2);
        x.set(1, 9);
        Due.is("who is there keeps its high", x.state(0, 1), 3);
        x.person(2, 0, 0, 0, false);
        Due.is("who comes has START", x.state(2, 1), 9);
        x.person(0, 0, 0, 0, false);
        Due.is("who comes anew has START", x.state(0, 1), 9);
        Due.is("the other one has not", x.state(1, 1), 3);
    }

    private static void whoWasNotThereCanNotLeave() {
        for (int p : Made.NOBODY) {
            Due.refused("leave " + p, Made::town, x -> x.leave(p), U);
        }
        DareBridge x = Made.skilled(1);
        Due.is("the last one leaves", x.leave(0), 0);
        Due.is("it has left", x.leave(0), U);
        Due.is("it is told no more", x.told(10), O);
        Due.is("it comes back", x.person(0, 0, 0, 0, false), 1);
        Due.is("it leaves again", x.leave(0), 0);
    }

    private static void whoLeavesTakesNobodyAlong() {
        for (int p = 0; p < 6; p++) {
            DareBridge x = Made.skilled(6);
            Due.is("one of six leaves", x.leave(p), 5);
            Due.is("who stays", x.told(1), 63 - (1 << p));
            Due.is("state of who left", x.state(p, 1), U);
            Due.is("state of the next one", x.state((p + 1) % 6, 1), 3);
        }
    }

    private static void whatIsSetHasALeastAndAMost() {
        for (int which = 0; which < 7; which++) {
            int w = which;
            DareBridge x = new DareBridge();
            Due.is("set " + which + " to its least", x.set(which, LEAST[which]), FIRST[which]);
            Due.is("least told of " + which, x.told(2 + which), LEAST[which]);
            Due.is("set " + which + " to its most", x.set(which, MOST[which]), LEAST[which]);
            Due.is("most told of " + which, x.told(2 + which), MOST[which]);
            for (int other = 0; other < 7; other++) {
                Due.is("told of " + other + " behind set of " + which, x.told(2 + other),
                    other == which ? MOST[other] : FIRST[other]);
            }
            for (int v : new int[] {LEAST[w] - 1, MOST[w] + 1, -1, Integer.MIN_VALUE, Integer.MAX_VALUE}) {
                Due.refused("set " + which + " to " + v, Made::town, y -> y.set(w, v), O);
            }
        }
    }

    private static void whichIsZeroToSix() {
        for (int which : new int[] {-1, 7, 8, Integer.MIN_VALUE, Integer.MAX_VALUE}) {
            for (int v : new int[] {0, 1, -1}) {
                Due.refused("set " + which + " to " + v, Made::town, x -> x.set(which, v), O);
            }
        }
    }

    private static void setOfSixAnswersX() {
        DareBridge x = Made.two(9, 0, 9);
        Due.is("SEED at first", x.set(6, 7), 1);
        Due.say(x, "AB05+");
        x.done();
        // 7 times 75 and 74
        Due.is("told x", x.told(8), 599);
        Due.is("x, not the seed", x.set(6, 9999), 599);
        Due.is("the seed is x then", x.set(6, 0), 9999);
        Due.is("the least seed is x then", x.told(8), 0);
    }

    /** Why B can not be dared the height by A, both having START. */
    private static void why(DareBridge x, int height, int due) {
        x.wipe();
        Due.say(x, "AB" + height / 10 + height % 10 + "+");
        Due.is("why not " + height, x.judge(1), due);
    }

    private static void stepIsOneToNine() {
        for (int step : new int[] {1, 9}) {
            DareBridge x = Made.two(9, 0, 9);
            x.set(0, step);
            why(x, 3 + step, NONE);
            why(x, 4 + step, 3);
        }
    }

    private static void startIsZeroToNine() {
        for (int start : new int[] {0, 9}) {
            DareBridge x = new DareBridge();
            x.set(1, start);
            x.person(0, 9, 0, 0, false);
            x.person(1, 9, 0, 0, false);
            Due.is("high at START " + start, x.state(0, 1), start);
            why(x, start + 1, NONE);
            why(x, start + 2, NONE);
            why(x, start + 3, 3);
        }
    }

    private static void costIsZeroToNinetyNine() {
        DareBridge x = Made.two(0, 0, 0);
        x.set(2, 0);
        Due.is("no COST", x.worth(0, 15, 0), 1000000);
        x.set(2, 99);
        // ODDS 7 times 99
        Due.is("most COST", x.worth(0, 15, 0), 1000000 - 693);
    }

    private static void fadeIsZeroToNine() {
        int[][] due = {{0, 1010, 997}, {9, 1001, 1000}};
        for (int[] d : due) {
            DareBridge x = new DareBridge();
            x.set(1, 9);
            x.set(3, d[0]);
            x.person(0, 9, 0, 9, false);
            x.person(1, 9, 0, 9, false);
            x.set(1, 4);
            x.person(2, 9, 0, 9, false);
            Due.say(x, "AB10+AC06-.");
            Due.is("fame 10 by FADE " + d[0], x.behind(1, 0), d[1]);
            Due.is("fame -3 by FADE " + d[0], x.behind(2, 0), d[2]);
        }
    }

    private static void keptIsOneToFortyTwo() {
        for (int kept : new int[] {1, 42}) {
            DareBridge x = Made.two(0, 0, 9);
            x.set(4, kept);
            x.set(5, 1);
            x.set(6, 0);
            Due.say(x, "AB05+");
            Due.is("hurt by KEPT " + kept, x.behind(1, 2), kept);
            Due.say(x, ".".repeat(kept - 1));
            Due.is("a night ahead of the last", x.behind(1, 2), 1);
            Due.say(x, ".");
            Due.is("the last night", x.behind(1, 2), 0);
            Due.say(x, ".");
            Due.is("a night behind the last", x.behind(1, 2), 0);
        }
    }

    private static void wetIsZeroOrOne() {
        DareBridge x = Made.two(0, 0, 0);
        Due.is("dry", x.odds(0, 5), 2);
        x.set(5, 1);
        Due.is("wet", x.odds(0, 5), 5);
        x.set(5, 0);
        Due.is("dry again", x.odds(0, 5), 2);
    }

    private static void xBehind(int seed, int due) {
        DareBridge x = Made.two(9, 0, 9);
        x.set(6, seed);
        Due.say(x, "AB05+");
        x.done();
        Due.is("x behind a draw by " + seed, x.told(8), due);
    }

    private static void seedIsZeroToNineThousandNineHundredNinetyNine() {
        xBehind(0, 74);
        xBehind(9999, 29092);
        // 872 times 75 and 74 is just below 65537, 873 above it.
        xBehind(872, 65474);
        xBehind(873, 12);
    }

    private static void signsAre33To126() {
        DareBridge x = new DareBridge();
        Due.is("the least sign", x.say(33), 1);
        Due.is("the greatest sign", x.say(126), 2);
        for (int sign : new int[] {32, 127, 0, -1, 10, 65 + 256, 46 + 65536, Integer.MIN_VALUE, Integer.MAX_VALUE}) {
            Due.refused("say " + sign, Made::town, y -> y.say(sign), O);
        }
        for (int sign = 33; sign <= 126; sign++) {
            Due.is("say " + sign, new DareBridge().say(sign), 1);
        }
    }

    private static void thePadHoldsSixty() {
        DareBridge x = new DareBridge();
        for (int n = 1; n <= 60; n++) {
            Due.is("sign " + n, x.say('.'), n);
        }
        Due.is("sign 61", x.say('.'), F);
        Due.is("sixty stay", x.told(0), 60);
        Due.is("none is at fault", x.fault(), NONE);
        Due.is("sixty nights", x.done(), 60);
        Due.is("the pad is free again", x.say('A'), 1);
        for (int sign : new int[] {33, 46, 65, 126}) {
            Due.refused("sign 61: " + sign, Made::townOfSixtySigns, y -> y.say(sign), F);
        }
    }

    private static void outsideIsAheadOfFull() {
        for (int sign : new int[] {32, 127, -1}) {
            Due.refused("sign 61 outside: " + sign, Made::townOfSixtySigns, y -> y.say(sign), O);
        }
    }

    private static void wipeEmptiesThePad() {
        Due.refused("wipe of nothing", DareBridge::new, x -> x.wipe(), 0);
        DareBridge x = Made.townOfSixtySigns();
        Due.is("wipe of sixty", x.wipe(), 60);
        Due.is("wipe again", x.wipe(), 0);
        Due.is("no signs", x.told(0), 0);
        Due.is("no fault", x.fault(), NONE);
        Due.is("one sign", x.say('.'), 1);
        Due.is("wipe of one", x.wipe(), 1);
        Due.is("people stay", x.told(1), 31);
    }

    /** Ahead of each place a text up to there, and the signs that can stand at it. */
    private static void everySignAtEveryPlace() {
        String[][] places = {{"", ".ABCDEF"}, {"A", "ABCDEF"}, {"F", "ABCDEF"}, {"AB", "01"}, {"AB0", "123456789"},
            {"AB1", "012345"}, {"AB01", "+-*"}, {"FF15", "+-*"}, {".", ".ABCDEF"}, {"AB10-", ".ABCDEF"},
            {"AB09+.BA10*F", "ABCDEF"}, {"AB09+.BA10*FE", "01"}, {"AB09+.BA10*FE1", "012345"},
            {"AB09+.BA10*FE10", "+-*"}};
        for (String[] place : places) {
            for (char sign = 33; sign <= 126; sign++) {
                boolean stands = place[1].indexOf(sign) >= 0;
                boolean whole = sign == '.' || place[1].equals("+-*");
                int length = place[0].length();
                faultIs(place[0] + sign, !stands ? length : whole ? NONE : length + 1);
            }
        }
    }

    private static void faultIs(String text, int due) {
        DareBridge x = new DareBridge();
        Due.say(x, text);
        Due.is("fault of " + text, x.fault(), due);
    }

    private static void faultIsTheFirst() {
        faultIs("", NONE);
        faultIs("GG", 0);
        faultIs("AGAG", 1);
        faultIs("AB22", 2);
        faultIs("AB00!", 3);
        faultIs("AB15!!", 4);
        faultIs("AB15+!!", 5);
        faultIs("AB15+AB", 7);
        faultIs("AB15+.G", 6);
    }

    private static void faultOfAFullPad() {
        String eleven = "AB10+".repeat(11);
        faultIs(eleven + "AB10*", NONE);
        faultIs(eleven + "AB10", 59);
        faultIs(eleven + "AB10.", 59);
        faultIs(eleven + ".....", NONE);
        faultIs(eleven + ".AB10", 60);
        faultIs(eleven + "....F", 60);
        faultIs(eleven + "....G", 59);
        faultIs(".".repeat(60), NONE);
        faultIs(".".repeat(59), NONE);
        faultIs(".".repeat(58) + "A", 59);
        faultIs(".".repeat(59) + "A", 60);
        Supplier<DareBridge> cut = () -> Made.town(".".repeat(48) + "A");
        Due.is("sixty signs", cut.get().told(0), 60);
        Due.refused("a fault is no sign more", cut, x -> x.fault(), 60);
    }

    /** An object is good for as many. */
    private static void theFiveHundredAndTwelfthCall() {
        DareBridge x = new DareBridge();
        int calls = 0;
        for (int round = 0; round < 102; round++) {
            Due.is("come in round " + round, x.person(round % 6, 9, 0, 9, false), 1);
            Due.is("say in round " + round, x.say('.'), 1);
            Due.is("done in round " + round, x.done(), 1);
            Due.is("seen in round " + round, x.seen(round % 6, 1, 1), round % 6 + 1);
            Due.is("leave in round " + round, x.leave(round % 6), 0);
            calls += 5;
            if (round % 6 == 5 && round < 100) {
                x.restore(0);
                x.forget();
                calls += 2;
            }
            if (calls > 500) {
                break;
            }
        }
        while (calls < 511) {
            x.fault();
            calls++;
        }
        Due.is("call 512", x.told(1), 0);
    }
}
