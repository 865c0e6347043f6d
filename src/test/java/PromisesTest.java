/** Each promise by answers reckoned by hand: ordinary inputs, edges, wrong inputs. */
public final class PromisesTest {
    private static final int U = DareBridge.UNKNOWN, O = DareBridge.OUTSIDE, S = DareBridge.STATE;
    private static final int F = DareBridge.FULL, NO = DareBridge.NO, NONE = DareBridge.NONE;
    private static final long GONE = DareBridge.GONE;

    public static void main(String[] args) {
        constants();
        aNewObject();
        person();
        leave();
        set();
        sayAndWipe();
        fault();
        judgeReasons();
        judgeCounts();
        stateAndBehind();
        draws();
        nights();
        done();
        ties();
        unhurt();
        odds();
        worthAndDoes();
        nerve();
        climb();
        safe();
        law();
        game();
        gameOfTies();
        gameOfOthers();
        enoughAndHolds();
        won();
        refuser();
        likely();
        seenAndForget();
        prides();
        year();
        yearOfNights();
        images();
        told();
        Due.end();
    }

    /** A and B without skill, fear or wish, of the pride told. */
    private static DareBridge two(int prideOfA, int prideOfB) {
        DareBridge x = new DareBridge();
        x.person(0, 0, 0, prideOfA, false);
        x.person(1, 0, 0, prideOfB, false);
        return x;
    }

    /** Two whom nothing harms up to height 10. */
    private static DareBridge skilled() {
        DareBridge x = new DareBridge();
        x.person(0, 9, 0, 5, false);
        x.person(1, 9, 0, 5, false);
        return x;
    }

    private static void constants() {
        Due.is("UNKNOWN", U, -1);
        Due.is("OUTSIDE", O, -2);
        Due.is("STATE", S, -3);
        Due.is("FULL", F, -4);
        Due.is("NO", NO, -5);
        Due.is("NONE", NONE, -6);
        Due.is("GONE", GONE, -1000000000000000000L);
    }

    private static void aNewObject() {
        DareBridge x = new DareBridge();
        int[] due = {0, 0, 2, 3, 20, 1, 6, 0, 1, 0};
        for (int what = 0; what < due.length; what++) {
            Due.is("new: told " + what, x.told(what), due[what]);
        }
        for (int p = 0; p < 6; p++) {
            Due.is("new: state " + p, x.state(p, 0), U);
        }
        Due.is("new: fault", x.fault(), NONE);
        Due.is("new: restore", x.restore(0), S);
    }

    private static void person() {
        DareBridge x = new DareBridge();
        Due.is("person A", x.person(0, 9, 0, 9, true), 1);
        Due.is("person F", x.person(5, 0, 9, 0, false), 2);
        Due.is("person A anew", x.person(0, 1, 2, 3, false), 2);
        Due.is("person -1", x.person(-1, 0, 0, 0, false), U);
        Due.is("person 6, skill outside", x.person(6, 10, 0, 0, false), U);
        Due.is("skill -1", x.person(1, -1, 0, 0, false), O);
        Due.is("skill 10", x.person(1, 10, 0, 0, false), O);
        Due.is("fear -1", x.person(1, 0, -1, 0, false), O);
        Due.is("fear 10", x.person(1, 0, 10, 0, false), O);
        Due.is("pride -1", x.person(1, 0, 0, -1, false), O);
        Due.is("pride 10", x.person(1, 0, 0, 10, false), O);
        Due.is("who is there", x.told(1), 33);
        Due.is("skill of A anew", x.told(10), 1);
        Due.is("high of A", x.state(0, 1), 3);
        x.set(1, 7);
        Due.is("START does not change who is there", x.state(0, 1), 3);
        x.person(0, 1, 2, 3, false);
        Due.is("high of A, come anew", x.state(0, 1), 7);
        DareBridge y = two(9, 9);
        y.set(6, 0);
        y.set(5, 1);
        Due.say(y, "AB05+");
        y.done();
        Due.is("B is in plaster", y.state(1, 2), 6);
        y.person(1, 0, 0, 9, false);
        Due.is("come anew: fame", y.state(1, 0), 1000);
        Due.is("come anew: high", y.state(1, 1), 3);
        Due.is("come anew: no plaster", y.state(1, 2), 0);
    }

    private static void leave() {
        DareBridge x = two(1, 1);
        Due.is("leave 2", x.leave(2), U);
        Due.is("leave -1", x.leave(-1), U);
        Due.is("leave 6", x.leave(6), U);
        Due.is("leave A", x.leave(0), 1);
        Due.is("leave A again", x.leave(0), U);
        Due.is("who is left", x.told(1), 2);
        Due.is("state of who left", x.state(0, 1), U);
        Due.is("leave B", x.leave(1), 0);
    }

    private static void set() {
        DareBridge x = new DareBridge();
        int[] first = {2, 3, 20, 1, 6, 0, 1};
        int[] least = {1, 0, 0, 0, 1, 0, 0};
        int[] most = {9, 9, 99, 9, 42, 1, 9999};
        for (int which = 0; which < 7; which++) {
            Due.is("set " + which + " too little", x.set(which, least[which] - 1), O);
            Due.is("set " + which + " too much", x.set(which, most[which] + 1), O);
            Due.is("set " + which + " least", x.set(which, least[which]), first[which]);
            Due.is("set " + which + " most", x.set(which, most[which]), least[which]);
            Due.is("told of " + which, x.told(2 + which), most[which]);
        }
        Due.is("set -1", x.set(-1, 1), O);
        Due.is("set 7", x.set(7, 1), O);
        Due.is("set 7 to 0", x.set(7, 0), O);
        Due.is("set 8 to 0", x.set(8, 0), O);
        DareBridge y = skilled();
        Due.say(y, "AB05+");
        y.done();
        Due.is("set SEED answers x", y.set(6, 5), 149);
    }

    private static void sayAndWipe() {
        DareBridge x = new DareBridge();
        Due.is("say 32", x.say(32), O);
        Due.is("say 127", x.say(127), O);
        Due.is("say 33", x.say(33), 1);
        Due.is("say 126", x.say(126), 2);
        Due.is("say -1", x.say(-1), O);
        for (int n = 3; n <= 60; n++) {
            Due.is("sign " + n, x.say('.'), n);
        }
        Due.is("sign 61", x.say('.'), F);
        Due.is("sign 61 outside", x.say(32), O);
        Due.is("signs told", x.told(0), 60);
        Due.is("wipe", x.wipe(), 60);
        Due.is("wipe again", x.wipe(), 0);
        Due.is("say again", x.say('.'), 1);
    }

    private static void faultIs(String text, int due) {
        DareBridge x = new DareBridge();
        Due.say(x, text);
        Due.is("fault of " + text, x.fault(), due);
    }

    private static void fault() {
        faultIs("", NONE);
        faultIs("...", NONE);
        faultIs("AB01+", NONE);
        faultIs("FA15*.CD09-", NONE);
        faultIs("AA10+", NONE);
        faultIs("A", 1);
        faultIs("AB", 2);
        faultIs("AB1", 3);
        faultIs("AB15", 4);
        faultIs("G", 0);
        faultIs("@", 0);
        faultIs("a", 0);
        faultIs("+", 0);
        faultIs("AG01+", 1);
        faultIs("A.", 1);
        faultIs("AB2", 2);
        faultIs("AB.", 2);
        faultIs("AB/", 2);
        faultIs("AB00+", 3);
        faultIs("AB16+", 3);
        faultIs("AB0:", 3);
        faultIs("AB1/", 3);
        faultIs("AB1A", 3);
        faultIs("AB01.", 4);
        faultIs("AB01,", 4);
        faultIs("AB01++", 5);
        faultIs(".AB01+.AB", 9);
        faultIs(".AB01+.AB3", 9);
    }

    private static void judged(DareBridge x, String text, int event, int why) {
        x.wipe();
        Due.say(x, text);
        Due.is(text + ": event", x.judge(0), event);
        Due.is(text + ": why", x.judge(1), why);
        int count = event == NONE ? x.judge(2) : S;
        Due.is(text + ": done", x.judge(2), count);
    }

    private static void judgeReasons() {
        DareBridge x = skilled();
        judged(x, "AB05+", NONE, NONE);
        judged(x, "AC05+", 0, 1);
        judged(x, "CA05+", 0, 1);
        judged(x, "AA05+", 0, 1);
        judged(x, "AB06+", 0, 3);
        judged(x, "AB03+", 0, 4);
        judged(x, "AB04-", NONE, NONE);
        judged(x, ".AB05+..BA07+BA07-", 5, 4);
        judged(x, "AB05+BA07+AB09+AB10+", 3, 3);
        // A does 5 first of a double, and so may be dared no 5 then.
        judged(x, "AB05*BA05+", 1, 4);
        DareBridge y = two(1, 1);
        y.person(2, 0, 0, 0, false);
        y.set(5, 1);
        y.set(6, 0);
        y.set(4, 2);
        y.set(1, 0);
        // ODDS 5, draws 4: B is in plaster, and it can neither be dared nor dare.
        judged(y, "AB05+AB15+", 1, 2);
        judged(y, "AB05+BA15+", 1, 2);
        judged(y, "AB05+BB15+", 1, 1);
        judged(y, "AB05+.AC15+", 2, 3);
        judged(y, "AB05+.BC05+", 2, 2);
        judged(y, "AB05+..BC06+", NONE, NONE);
        // Above what C dares and not above what A has done: the lesser reason.
        x.person(2, 0, 0, 0, false);
        judged(x, "AB05+BA07+CA07-", 2, 3);
        x.wipe();
        Due.say(x, "AB05+A");
        Due.is("judge with a fault", x.judge(0), NO);
        Due.is("judge outside", x.judge(-1), O);
        Due.is("judge 5 with a fault", x.judge(5), O);
    }

    private static void judgeCounts() {
        DareBridge x = skilled();
        Due.say(x, "AB04+BA04+AB05-.BA05-AB06*BA07*BA08-");
        Due.is("event", x.judge(0), NONE);
        Due.is("done", x.judge(2), 2);
        Due.is("refused", x.judge(3), 3);
        Due.is("doubled", x.judge(4), 2);
        Due.is("nothing changed", x.told(8), 1);
        Due.is("the pad stays", x.told(0), 36);
    }

    private static void stateAndBehind() {
        DareBridge x = two(1, 1);
        x.set(5, 1);
        x.set(6, 0);
        Due.say(x, "AB05-");
        Due.is("refused: fame", x.behind(1, 0), 998);
        Due.is("refused: high", x.behind(1, 1), 3);
        Due.is("state is as it was", x.state(1, 0), 1000);
        x.wipe();
        Due.say(x, "AB05+");
        Due.is("done: fame", x.behind(1, 0), 1005);
        Due.is("done: high", x.behind(1, 1), 5);
        Due.is("done: plaster", x.behind(1, 2), 6);
        Due.is("done: fame of A", x.behind(0, 0), 1000);
        x.wipe();
        // A does it first and is hurt: B need not.
        Due.say(x, "AB05*");
        Due.is("doubled: plaster of A", x.behind(0, 2), 6);
        Due.is("doubled: fame of A", x.behind(0, 0), 1005);
        Due.is("doubled: fame of B", x.behind(1, 0), 1000);
        Due.is("doubled: high of B", x.behind(1, 1), 3);
        // 75 and 74 is 149: 9 is not below 5; then 11249 again: both do it unhurt.
        x.set(6, 1);
        Due.is("doubled unhurt: A", x.behind(0, 0), 1005);
        Due.is("doubled unhurt: B", x.behind(1, 0), 1005);
        Due.is("doubled unhurt: plaster of B", x.behind(1, 2), 0);
        Due.is("behind of C", x.behind(2, 0), U);
        Due.is("behind of C, outside", x.behind(2, 3), U);
        Due.is("behind -1", x.behind(0, -1), O);
        Due.is("behind 3", x.behind(0, 3), O);
        Due.is("state of C, outside", x.state(2, 3), U);
        Due.is("state of 6", x.state(6, 0), U);
        Due.is("state -1", x.state(0, -1), O);
        Due.is("state 3", x.state(0, 3), O);
        x.say('B');
        Due.is("behind with a fault", x.behind(0, 0), NO);
        Due.is("behind outside with a fault", x.behind(0, 3), O);
        Due.is("state with a fault", x.state(0, 0), 1000);
        x.wipe();
        Due.say(x, "AB06+");
        Due.is("behind what can not be", x.behind(0, 0), S);
    }

    private static void draws() {
        DareBridge x = new DareBridge();
        x.set(1, 9);
        x.person(0, 0, 0, 0, false);
        x.person(1, 1, 0, 0, false);
        x.person(2, 0, 0, 0, false);
        x.set(6, 0);
        // The draw is 74: 4 is below ODDS 5, not below ODDS 4.
        Due.say(x, "AB10+");
        Due.is("not below ODDS", x.behind(1, 2), 0);
        x.wipe();
        Due.say(x, "AC10+");
        Due.is("below ODDS", x.behind(2, 2), 6);
        x.set(6, 1);
        x.set(5, 1);
        // The draw is 149: 9 is not below ODDS 7.
        Due.is("well above ODDS", x.behind(2, 2), 0);
        x.wipe();
        Due.say(x, "CB11*");
        // Then it is 11249: 9 is not below either of ODDS 8 and 7.
        Due.is("neither is hurt", x.behind(2, 2) + x.behind(1, 2), 0);
        x.done();
        Due.is("a draw each", x.told(8), 11249);
        Due.say(x, "BA13+");
        x.done();
        Due.is("left over by 65537", x.told(8), 57305);
        Due.is("5 is below ODDS 9", x.state(0, 2), 6);
    }

    private static void nights() {
        DareBridge x = skilled();
        x.set(3, 4);
        Due.say(x, "AB05+BA04-.");
        Due.is("a night: fame of B", x.behind(1, 0), 1001);
        Due.is("a night: fame of A", x.behind(0, 0), 1000);
        Due.say(x, ".");
        Due.is("two nights: fame of B", x.behind(1, 0), 1000);
        x.set(3, 0);
        Due.is("nothing fades", x.behind(1, 0), 1005);
        Due.is("nothing fades below", x.behind(0, 0), 998);
        DareBridge y = two(1, 1);
        y.set(5, 1);
        y.set(6, 0);
        y.set(4, 2);
        Due.say(y, "AB05+.");
        Due.is("a night in plaster", y.behind(1, 2), 1);
        Due.say(y, "AB06+");
        Due.is("in plaster for a night more", y.judge(1), 2);
        y.wipe();
        Due.say(y, "AB05+.");
        Due.say(y, "...");
        Due.is("long out of plaster", y.behind(1, 2), 0);
        DareBridge z = new DareBridge();
        z.set(1, 0);
        z.set(3, 0);
        z.person(0, 9, 0, 0, false);
        z.person(1, 9, 0, 0, false);
        Due.say(z, "AB01+.");
        Due.is("one stays", z.behind(1, 0), 1001);
        z.set(3, 9);
        Due.is("no further than 0", z.behind(1, 0), 1000);
    }

    private static void done() {
        DareBridge x = skilled();
        Due.say(x, "AB05+.BA05*");
        Due.is("done", x.done(), 3);
        Due.is("the pad is empty", x.told(0), 0);
        Due.is("x after three draws", x.told(8), (75L * 11249 + 74) % 65537);
        Due.is("fame of A", x.state(0, 0), 1005);
        Due.is("fame of B", x.state(1, 0), 1009);
        Due.is("high of B", x.state(1, 1), 5);
        Due.is("done of nothing", x.done(), 0);
        Due.say(x, "AB08+");
        Due.is("done of what can not be", x.done(), S);
        Due.is("the pad stays", x.told(0), 5);
        x.say('.');
        x.say('!');
        Due.is("done with a fault", x.done(), NO);
        Due.is("the pad stays still", x.told(0), 7);
        Due.is("fame stays", x.state(0, 0), 1005);
        // Less than the high that was: it stays; as high is told, so also below it.
        DareBridge y = skilled();
        Due.say(y, "AB05+BA04*");
        y.done();
        Due.is("high is the greatest", y.state(1, 1), 5);
        Due.is("fame of both", y.state(1, 0), 1009);
    }

    private static void ties() {
        DareBridge x = skilled();
        x.person(2, 9, 0, 0, false);
        Due.is("no dares", x.ties(0), NONE);
        Due.is("no dares, how many", x.ties(1), NONE);
        Due.say(x, "..");
        Due.is("nights alone", x.ties(1), NONE);
        Due.say(x, "CB04-");
        Due.is("one two", x.ties(0), 21);
        Due.say(x, "BC04-");
        Due.is("the least of two", x.ties(0), 12);
        Due.is("one each", x.ties(1), 1);
        Due.say(x, "CB04-BC05*.CB05-");
        Due.is("the most", x.ties(0), S);
        x.wipe();
        Due.say(x, "CB04-BC04-AB04-CB05*");
        Due.is("the most is not the least", x.ties(0), 21);
        Due.is("how many", x.ties(1), 2);
        Due.is("ties -1", x.ties(-1), O);
        Due.is("ties 2", x.ties(2), O);
        x.say('A');
        Due.is("ties with a fault", x.ties(0), NO);
        Due.is("ties outside with a fault", x.ties(2), O);
    }

    private static void unhurtIs(DareBridge x, String text, long upper, long lower) {
        x.wipe();
        Due.say(x, text);
        Due.is(text + ": unhurt upper", x.unhurt(0), upper);
        Due.is(text + ": unhurt lower", x.unhurt(1), lower);
    }

    private static void unhurt() {
        DareBridge x = two(1, 1);
        x.person(2, 9, 0, 0, false);
        unhurtIs(x, "", 1, 1);
        unhurtIs(x, ".AB05-", 1, 1);
        unhurtIs(x, "AC05+", 1, 1);
        unhurtIs(x, "AB05+", 4, 5);
        x.set(5, 1);
        x.set(6, 0);
        // A is hurt in fact; by chance both do it: a half, twice.
        unhurtIs(x, "AB05*", 1, 4);
        unhurtIs(x, "AB05*C", GONE + NO, GONE + NO);
        unhurtIs(x, "AB05*BA04+", GONE + S, GONE + S);
        Due.is("unhurt -1", x.unhurt(-1), GONE + O);
        Due.is("unhurt 2", x.unhurt(2), GONE + O);
        DareBridge y = new DareBridge();
        y.set(1, 9);
        y.set(0, 9);
        y.set(5, 1);
        y.person(0, 0, 0, 1, false);
        y.person(1, 0, 0, 1, false);
        // 20 above by 2: ODDS 10.
        unhurtIs(y, "AB15+", 0, 1);
        unhurtOfMany();
    }

    private static void unhurtOfMany() {
        DareBridge x = new DareBridge();
        x.set(1, 0);
        x.set(0, 9);
        for (int p = 0; p < 6; p++) {
            x.person(p, 9, 0, 0, false);
        }
        // A double is two heights, whoever of them is no higher by it.
        String seven = "AB01*AB02*AB03*AB04*AB05*AB06*AB07*";
        unhurtIs(x, seven + "AB08+", 1, 1);
        unhurtIs(x, seven + "AB08*", GONE + F, GONE + F);
        x.person(2, 0, 0, 0, false);
        unhurtIs(x, seven + "AC08+", 3, 5);
        x.person(2, 9, 0, 0, false);
        Due.is("OUTSIDE ahead of FULL", x.unhurt(2), GONE + O);
        unhurtIs(x, seven + "AB08+AC01-AD01-", 1, 1);
        DareBridge y = two(0, 0);
        y.person(0, 2, 0, 0, false);
        y.person(1, 2, 0, 0, false);
        y.set(1, 0);
        y.set(4, 1);
        y.set(6, 1);
        y.set(0, 9);
        Due.say(y, "AB04+.BA04+.AB05+.BA05+.");
        Due.is("four of nine tenths", y.unhurt(0), 6561);
        Due.is("four of nine tenths below", y.unhurt(1), 10000);
    }

    private static void odds() {
        DareBridge x = new DareBridge();
        x.person(0, 0, 0, 0, false);
        x.person(1, 9, 0, 0, false);
        Due.is("odds 1", x.odds(0, 1), 0);
        Due.is("odds 2", x.odds(0, 2), 1);
        Due.is("odds 15", x.odds(0, 15), 7);
        Due.is("odds below skill", x.odds(1, 1), 0);
        Due.is("odds 11 of 9", x.odds(1, 11), 1);
        x.set(5, 1);
        Due.is("wet 1", x.odds(0, 1), 3);
        Due.is("wet 15", x.odds(0, 15), 10);
        Due.is("wet 5 of 9", x.odds(1, 5), 0);
        Due.is("wet 6 of 9", x.odds(1, 6), 1);
        Due.is("odds 0", x.odds(0, 0), O);
        Due.is("odds 16", x.odds(0, 16), O);
        Due.is("odds of nobody", x.odds(2, 16), U);
        Due.is("odds of -1", x.odds(-1, 1), U);
    }

    private static void worthAndDoes() {
        DareBridge x = new DareBridge();
        x.person(0, 1, 3, 4, false);
        // ODDS 3, harm 20 and 21: 280 less 123; refused 3 times 40.
        Due.is("worth done", x.worth(0, 7, 0), 1000157);
        Due.is("worth refused", x.worth(0, 7, 1), 999880);
        Due.is("worth refused at 1", x.worth(0, 1, 1), 1000000);
        Due.is("worth -1", x.worth(0, 7, -1), O);
        Due.is("worth 2", x.worth(0, 7, 2), O);
        Due.is("worth of 0", x.worth(0, 0, 0), O);
        Due.is("worth of 16", x.worth(0, 16, 0), O);
        Due.is("worth of nobody", x.worth(3, 0, 2), U);
        Due.is("does", x.does(0, 7), 1);
        Due.is("does 0", x.does(0, 0), O);
        Due.is("does 16", x.does(0, 16), O);
        Due.is("does of nobody", x.does(3, 16), U);
        // At 2: ODDS 1, 20 p less COST is to be no less than 0 less 10 p.
        x.person(1, 0, 0, 1, false);
        x.set(2, 30);
        Due.is("worth no less", x.does(1, 2), 1);
        x.set(2, 31);
        Due.is("worth less", x.does(1, 2), 0);
    }

    private static void nerve() {
        DareBridge x = new DareBridge();
        x.person(0, 0, 9, 0, false);
        x.person(1, 9, 9, 0, false);
        x.person(2, 9, 0, 9, false);
        Due.is("no pride: nerve", x.nerve(0, 0), 1);
        Due.is("no pride: refused least", x.nerve(0, 1), 2);
        Due.is("no pride: sure", x.nerve(0, 2), 1);
        Due.is("skilled: nerve", x.nerve(1, 0), 10);
        Due.is("skilled: refused least", x.nerve(1, 1), 11);
        Due.is("skilled: sure", x.nerve(1, 2), 10);
        Due.is("does all: nerve", x.nerve(2, 0), 15);
        Due.is("does all: refuses none", x.nerve(2, 1), NONE);
        Due.is("does all: sure", x.nerve(2, 2), 10);
        // At 14 ODDS 2, at 15 3 of COST: 140 and 70 are more than two of 74, 150 and 70 less than three.
        x.set(2, 74);
        x.person(3, 9, 0, 1, false);
        Due.is("all but the top", x.nerve(3, 0), 14);
        Due.is("the top", x.nerve(3, 1), 15);
        x.set(2, 20);
        x.set(5, 1);
        Due.is("wet: nerve", x.nerve(0, 0), 0);
        Due.is("wet: refused least", x.nerve(0, 1), 1);
        Due.is("wet: sure of none", x.nerve(0, 2), 0);
        Due.is("nerve -1", x.nerve(0, -1), O);
        Due.is("nerve 3", x.nerve(0, 3), O);
        Due.is("nerve of nobody", x.nerve(5, 3), U);
        // At 2 it refuses, at 3 its pride is worth more: nerve stops ahead of the least.
        DareBridge y = two(1, 1);
        y.set(2, 35);
        Due.is("not at 2", y.does(0, 2), 0);
        Due.is("but at 3", y.does(0, 3), 1);
        Due.is("nerve is below", y.nerve(0, 0), 1);
        Due.is("refused least", y.nerve(0, 1), 2);
    }

    private static void climb() {
        DareBridge x = new DareBridge();
        x.person(0, 9, 0, 0, false);
        x.person(1, 0, 0, 0, false);
        // Without pride: A refuses from 11 on, B from 2 on.
        Due.is("B does 1, A 3, B refuses 5: done", x.climb(0, 1, 1, 15, 0), 2);
        Due.is("last", x.climb(0, 1, 1, 15, 1), 5);
        Due.is("refuser", x.climb(0, 1, 1, 15, 2), 1);
        Due.is("up to 4: done", x.climb(0, 1, 1, 4, 0), 2);
        Due.is("up to 4: last", x.climb(0, 1, 1, 4, 1), 3);
        Due.is("up to 4: nobody", x.climb(0, 1, 1, 4, 2), NONE);
        Due.is("up to 5: refuser", x.climb(0, 1, 1, 5, 2), 1);
        Due.is("B refuses at once", x.climb(0, 1, 2, 2, 0), 0);
        Due.is("at once: last", x.climb(0, 1, 2, 2, 1), 2);
        Due.is("the other way", x.climb(1, 0, 2, 2, 2), NONE);
        x.set(0, 9);
        Due.is("by steps of 9: last", x.climb(1, 0, 10, 15, 1), 10);
        Due.is("by steps of 9: done", x.climb(1, 0, 10, 15, 0), 1);
        wrongClimbs(x);
    }

    private static void wrongClimbs(DareBridge x) {
        Due.is("climb alone", x.climb(0, 0, 1, 1, 0), U);
        Due.is("climb of nobody", x.climb(0, 2, 0, 0, 9), U);
        Due.is("climb by nobody", x.climb(-1, 0, 1, 1, 0), U);
        int[][] off = {{0, 5}, {6, 5}, {1, 0}, {1, 16}, {16, 16}, {16, 17}, {-1, -1}};
        for (int[] o : off) {
            Due.is("climb " + o[0] + " " + o[1], x.climb(0, 1, o[0], o[1], 0), O);
            Due.is("safe " + o[0] + " " + o[1], x.safe(0, 1, o[0], o[1], 0), GONE + O);
            Due.is("game " + o[0] + " " + o[1], x.game(0, 1, o[0], o[1], 0), O);
        }
        Due.is("climb -1", x.climb(0, 1, 1, 1, -1), O);
        Due.is("climb 3", x.climb(0, 1, 1, 1, 3), O);
        Due.is("safe alone", x.safe(1, 1, 1, 1, 0), GONE + U);
        Due.is("safe of nobody", x.safe(0, 2, 0, 0, 9), GONE + U);
        Due.is("safe -1", x.safe(0, 1, 1, 1, -1), GONE + O);
        Due.is("safe 2", x.safe(0, 1, 1, 1, 2), GONE + O);
        Due.is("game alone", x.game(1, 1, 1, 1, 0), U);
        Due.is("game of nobody", x.game(0, 2, 0, 0, 9), U);
        Due.is("game -1", x.game(0, 1, 1, 1, -1), O);
        Due.is("game 3", x.game(0, 1, 1, 1, 3), O);
    }

    private static void safe() {
        DareBridge x = two(9, 9);
        x.person(2, 9, 0, 0, false);
        Due.is("A refuses none", x.nerve(0, 1), NONE);
        // ODDS 2, 3, 4 of 5, 7, 9.
        Due.is("5 to 9", x.safe(0, 1, 5, 9, 0), 42);
        Due.is("5 to 9 below", x.safe(0, 1, 5, 9, 1), 125);
        Due.is("5 to 10", x.safe(0, 1, 5, 10, 0), 42);
        Due.is("1 alone", x.safe(0, 1, 1, 1, 0), 1);
        Due.is("1 alone below", x.safe(0, 1, 1, 1, 1), 1);
        // C refuses 11, and nothing is done by it.
        Due.is("refused at once", x.safe(0, 2, 11, 15, 1), 1);
        Due.is("C does 9, A 11, C refuses", x.safe(0, 2, 9, 15, 0), 1);
        Due.is("C does 9, A 11, C refuses, below", x.safe(0, 2, 9, 15, 1), 2);
        x.set(5, 1);
        Due.is("certain harm", x.safe(0, 1, 15, 15, 0), 0);
        Due.is("certain harm below", x.safe(0, 1, 15, 15, 1), 1);
    }

    private static void law() {
        DareBridge x = two(9, 9);
        // SAFE 4/5 by 5, 14/25 by 7, 42/125 by 9, 42/250 by 11.
        Due.is("just 4 by 5", x.law(0, 1, 5, 4, 5), 6);
        Due.is("above 4 by 5", x.law(0, 1, 5, 81, 100), NONE);
        Due.is("just 56 by 100", x.law(0, 1, 5, 56, 100), 8);
        Due.is("above 56 by 100", x.law(0, 1, 5, 57, 100), 6);
        Due.is("nothing is asked", x.law(0, 1, 5, 0, 1), 15);
        Due.is("15 alone", x.law(0, 1, 15, 3, 10), 15);
        Due.is("not even 15", x.law(0, 1, 15, 31, 100), NONE);
        x.person(2, 9, 0, 0, false);
        Due.is("who refuses is safe", x.law(0, 2, 11, 1, 1), 15);
        Due.is("law alone", x.law(0, 0, 5, 1, 1), U);
        Due.is("law of nobody", x.law(0, 3, 0, 1, 0), U);
        Due.is("height 0", x.law(0, 1, 0, 1, 1), O);
        Due.is("height 16", x.law(0, 1, 16, 1, 1), O);
        Due.is("by 0", x.law(0, 1, 5, 0, 0), O);
        Due.is("by 101", x.law(0, 1, 5, 1, 101), O);
        Due.is("-1", x.law(0, 1, 5, -1, 5), O);
        Due.is("6 by 5", x.law(0, 1, 5, 6, 5), O);
    }

    private static void gameIs(DareBridge x, int height, int limit, int choice, int dared, int darer) {
        String call = "game from " + height + " to " + limit;
        Due.is(call + ": choice", x.game(0, 1, height, limit, 0), choice);
        Due.is(call + ": who is dared", x.game(0, 1, height, limit, 1), 1000000 + dared);
        Due.is(call + ": who dares", x.game(0, 1, height, limit, 2), 1000000 + darer);
    }

    private static void game() {
        // B of pride 2 at 5, ODDS 2 and harm 20: done 100 less 40.
        gameIs(two(2, 2), 5, 5, 0, 60, 0);
        // At 7 A does it, too: 140 less 60, to B nothing more.
        gameIs(two(2, 2), 5, 7, 0, 60, 80);
        // Neither has pride: done 0 less 40, refused 0; A would not meet a double: 0 also, behind refusing.
        gameIs(two(0, 0), 5, 5, 1, 0, 0);
        // A has none and would not meet it at 5: it is worth 25 to B, done 50 less 40.
        gameIs(two(0, 1), 5, 5, 2, 25, 0);
        // A of pride 1 at COST 80: done 50 less 160 is below 0 less 50. B by doing: 200 less 160, by doubling 100.
        DareBridge x = two(1, 4);
        x.set(2, 80);
        gameIs(x, 5, 5, 2, 100, -50);
        DareBridge y = two(1, 1);
        y.set(2, 30);
        // At 2: done 20 less 30, refused 0 less 10: doing goes ahead.
        gameIs(y, 2, 3, 0, -10, 0);
        // At 4 A does it, 40 less 60 as well as 0 less 20: so it would not meet a double at 2, of 20 less 30 and that.
        gameIs(y, 2, 5, 2, 10, -20);
        // With 6 behind it (60 less 90) B would not meet a double at 4, which A is glad of: 20 to it, 0 less 40 to B.
        // So B refuses at 2: done 20 less 30 less 40; and A would meet a double there: 20 less 30, and 20.
        gameIs(y, 2, 6, 1, -10, 0);
    }

    private static void gameOfTies() {
        // COST 30 at 4: A, of pride 1, meets it by 40 less 60, more than 0 less 40; so B does it at once.
        DareBridge x = two(1, 1);
        x.set(2, 30);
        gameIs(x, 4, 4, 0, -20, 0);
        // COST 40: A would meet it just as well as not, 0 less 40 each: it does.
        // B: done 40 less 80, refused 0 less 20: it refuses.
        x.set(2, 40);
        gameIs(x, 4, 4, 1, -20, 0);
        // COST 41: A does not meet it any more, and B has 20 by it.
        x.set(2, 41);
        gameIs(x, 4, 4, 2, 20, -40);
        // COST 30, B of pride 1: done 0 less 20 at 4, refused 0 less 20: doing goes ahead.
        Due.is("as told: choice", x.set(2, 30), 41);
        gameIs(x, 4, 5, 0, -20, 0);
        // At 6 A does it, 60 less 90 as well as 0 less 30: so it would not meet a double at 4.
        gameIs(x, 4, 6, 2, 20, -40);
        // B of pride 2 at 4: done 80 less 2 COST, doubled 40: at COST 20 doing goes ahead.
        DareBridge y = two(0, 2);
        gameIs(y, 4, 4, 0, 40, 0);
        y.set(2, 21);
        gameIs(y, 4, 4, 2, 40, 0);
    }

    private static void gameOfOthers() {
        // A skilled, without pride; B proud; steps of 2 from 4: B is dared 4, A 6, B 8.
        DareBridge x = new DareBridge();
        x.person(0, 9, 0, 0, false);
        x.person(1, 0, 0, 3, false);
        // 8: ODDS 4, 240 less 80 to B, who dares A no more; A has 0 of all it does or leaves.
        // A meets a double by 0, as good as not; so B does it.
        gameIs(x, 8, 9, 0, 160, 0);
        // 6: A does it (0), B has 160 of what comes then. 4: ODDS 2, 120 less 40, and 160.
        gameIs(x, 4, 8, 0, 240, 0);
        gameIs(x, 4, 7, 0, 80, 0);
        // At 12 A has ODDS 1: 0 less 20 by doing, so it refuses; B does 10 (ODDS 5, 300 less 100).
        gameIs(x, 10, 12, 0, 200, 0);
        // And at 14 B, who would have 420 less 140, is not asked.
        gameIs(x, 10, 14, 0, 200, 0);
        // B dares first, A doing 10 and B 12: ODDS 6, 360 less 120; A refuses 14.
        x.person(0, 9, 0, 0, true);
        Due.is("A does 10", x.game(1, 0, 10, 15, 0), 0);
        Due.is("A has nothing of it", x.game(1, 0, 10, 15, 1), 1000000);
        Due.is("B has 240 of it", x.game(1, 0, 10, 15, 2), 1000240);
    }

    private static void enoughAndHolds() {
        DareBridge x = new DareBridge();
        x.person(0, 0, 0, 3, false);
        x.person(1, 0, 0, 4, false);
        x.person(2, 0, 0, 5, false);
        x.person(3, 0, 0, 0, true);
        x.person(5, 0, 0, 9, false);
        Due.is("B draws A, both C, none F", x.enough(1), 7);
        Due.is("it holds", x.holds(1), 1);
        Due.is("one with a wish says it: A, then B and C, then F", x.enough(3), 47);
        Due.is("all hold", x.holds(3), 1);
        x.person(2, 0, 0, 8, false);
        Due.is("A joins alone, then B", x.enough(3), 11);
        Due.is("two of five", x.enough(0), 1);
        Due.is("do not hold", x.holds(0), 0);
        Due.is("three of five do", x.holds(3), 1);
        Due.is("two of five by B", x.holds(1), 0);
        x.person(0, 0, 0, 9, false);
        x.person(1, 0, 0, 2, false);
        x.person(2, 0, 0, 4, false);
        x.person(3, 0, 0, 0, false);
        x.person(5, 0, 0, 9, false);
        // A draws B and D, who draw C, and these four F; but B draws D, both C, and no more.
        Due.is("enough by A", x.enough(0), 47);
        Due.is("enough by B", x.enough(1), 14);
        x.person(2, 0, 0, 9, false);
        Due.is("B and D alone", x.holds(1), 0);
        Due.is("with A", x.holds(0), 1);
        DareBridge y = two(9, 9);
        Due.is("half is not more", y.holds(0), 0);
        y.leave(1);
        Due.is("alone it holds", y.holds(0), 1);
        Due.is("enough of nobody", y.enough(1), U);
        Due.is("enough of -1", y.enough(-1), U);
        Due.is("enough of 6", y.enough(6), U);
        Due.is("holds of nobody", y.holds(1), U);
        Due.is("holds of 32", y.holds(32), U);
    }

    private static void won() {
        DareBridge x = new DareBridge();
        Due.is("nobody", x.won(0), NONE);
        Due.is("nobody, which", x.won(1), NONE);
        for (int p = 0; p < 6; p++) {
            x.person(p, 0, 0, 9, p == 0);
        }
        // Half of 9 is 4: four draw the fifth, fewer nobody.
        Due.is("four of six", x.won(0), 4);
        Due.is("B to E", x.won(1), 30);
        x.person(4, 0, 0, 3, false);
        x.person(5, 0, 0, 5, false);
        // B and C draw F (2) and E (1), and all four D.
        Due.is("two draw two", x.won(0), 2);
        Due.is("B and C", x.won(1), 6);
        x.person(3, 0, 0, 6, false);
        // B draws E (1); both F (2), and the three D (3).
        Due.is("one draws three", x.won(0), 1);
        Due.is("B", x.won(1), 2);
        for (int p = 0; p < 5; p++) {
            x.person(p, 0, 0, 0, true);
        }
        Due.is("too many with a wish", x.won(0), NONE);
        Due.is("too many with a wish, which", x.won(1), NONE);
        x.leave(1);
        x.leave(2);
        x.leave(3);
        x.person(0, 0, 0, 9, false);
        x.person(4, 0, 0, 0, false);
        x.person(5, 0, 0, 0, true);
        Due.is("A draws E", x.won(1), 1);
        Due.is("A alone", x.won(0), 1);
        Due.is("won -1", x.won(-1), O);
        Due.is("won 2", x.won(2), O);
    }

    private static void refuser() {
        DareBridge x = new DareBridge();
        x.person(0, 0, 0, 0, false);
        x.person(1, 0, 0, 9, false);
        x.person(2, 0, 0, 0, true);
        x.person(3, 0, 0, 0, false);
        Due.is("not B", x.refuser(0, 5), 2);
        Due.is("the least", x.refuser(1, 5), 0);
        Due.is("the greatest height", x.refuser(0, 15), 2);
        Due.is("HIGH is not below it", x.refuser(0, 3), NONE);
        Due.is("HIGH is below it", x.refuser(0, 4), 2);
        x.leave(2);
        Due.is("who is there", x.refuser(0, 5), 3);
        x.set(6, 0);
        x.set(5, 1);
        Due.say(x, "AD05+");
        x.done();
        Due.is("D is in plaster", x.state(3, 2), 6);
        Due.is("nobody is left", x.refuser(0, 15), NONE);
        Due.is("who dares may be in plaster", x.refuser(3, 15), 0);
        Due.is("refuser 0", x.refuser(0, 0), O);
        Due.is("refuser 16", x.refuser(0, 16), O);
        Due.is("refuser of nobody", x.refuser(2, 16), U);
    }

    private static void likely() {
        DareBridge x = new DareBridge();
        x.person(0, 0, 9, 5, false);
        // ODDS 4, harm 20 and 81: 130 p (10 times 9 and 4) is to be 404: from 4 on.
        Due.is("likely 9", x.likely(0, 9), 6);
        Due.is("by no ODDS all do it", x.likely(0, 1), 10);
        x.set(5, 1);
        // ODDS 10, harm 20 and 135: 220 p to be 1550: from 8 on.
        Due.is("likely 15", x.likely(0, 15), 2);
        x.set(2, 99);
        // ODDS 3, harm 108: 10 p to be 324: none.
        Due.is("likely 1", x.likely(0, 1), 0);
        Due.is("likely 0", x.likely(0, 0), O);
        Due.is("likely 16", x.likely(0, 16), O);
        Due.is("likely of nobody", x.likely(1, 16), U);
    }

    private static void seenAndForget() {
        DareBridge x = two(1, 1);
        Due.is("nothing to forget", x.forget(), 0);
        for (int n = 1; n <= 6; n++) {
            Due.is("sight " + n, x.seen(n % 2, 15, n / 4), n);
        }
        Due.is("sight 7", x.seen(0, 1, 1), F);
        Due.is("sight 7 outside", x.seen(0, 16, 1), O);
        Due.is("sights told", x.told(9), 6);
        Due.is("forget", x.forget(), 6);
        Due.is("sights told then", x.told(9), 0);
        Due.is("seen at 0", x.seen(0, 0, 1), O);
        Due.is("seen -1", x.seen(0, 1, -1), O);
        Due.is("seen 2", x.seen(0, 1, 2), O);
        Due.is("seen of nobody", x.seen(2, 1, 2), U);
        Due.is("none of these counts", x.seen(0, 1, 0), 1);
    }

    private static void pridesAre(DareBridge x, int person, int many, int least, int greatest) {
        Due.is("prides of " + person, x.prides(person, 0), many);
        Due.is("least of " + person, x.prides(person, 1), least);
        Due.is("greatest of " + person, x.prides(person, 2), greatest);
    }

    private static void prides() {
        DareBridge x = new DareBridge();
        x.person(0, 0, 9, 5, false);
        x.person(1, 0, 0, 5, false);
        pridesAre(x, 0, 10, 0, 9);
        // At 9 it does it by 4 on (see likely), at 2 (ODDS 1, harm 38) by 2 on (30 p to be 38).
        x.seen(0, 9, 0);
        pridesAre(x, 0, 4, 0, 3);
        x.seen(0, 2, 1);
        pridesAre(x, 0, 2, 2, 3);
        pridesAre(x, 1, 10, 0, 9);
        // B is of no fear: at 9 ODDS 4 of COST, 130 p to be 80.
        x.seen(1, 9, 1);
        pridesAre(x, 1, 9, 1, 9);
        pridesAre(x, 0, 2, 2, 3);
        x.seen(0, 2, 0);
        pridesAre(x, 0, 0, NONE, NONE);
        x.forget();
        pridesAre(x, 0, 10, 0, 9);
        x.seen(0, 9, 1);
        pridesAre(x, 0, 6, 4, 9);
        x.set(5, 1);
        // All else is as it is now: ODDS 7, harm 101: 130 p to be 707.
        pridesAre(x, 0, 4, 6, 9);
        x.leave(0);
        Due.is("prides of who left", x.prides(0, 3), U);
        x.person(0, 0, 9, 0, false);
        pridesAre(x, 0, 4, 6, 9);
        Due.is("prides -1", x.prides(0, -1), O);
        Due.is("prides 3", x.prides(0, 3), O);
        Due.is("prides of nobody", x.prides(2, 0), U);
    }

    private static void year() {
        // By seed 1 y is 149: F dares A (5, and 24 is 0 by 6).
        DareBridge x = new DareBridge();
        x.person(5, 0, 0, 0, false);
        x.person(0, 9, 0, 9, false);
        Due.is("one dare", x.year(1, 1, 0), 1);
        Due.is("one dare refused", x.year(1, 1, 1), 0);
        Due.is("one dare, nobody hurt", x.year(1, 1, 2), 0);
        x.person(0, 0, 0, 0, false);
        Due.is("A refuses 5", x.year(1, 1, 1), 1);
        Due.is("A does not do it", x.year(1, 1, 0), 0);
        x.person(0, 0, 0, 9, false);
        x.set(5, 1);
        x.set(6, 0);
        Due.is("A is hurt", x.year(1, 1, 2), 1);
        Due.is("nothing is done in fact", x.told(8), 0);
        Due.is("nobody is hurt in fact", x.state(0, 2), 0);
        x.leave(5);
        Due.is("nobody dares", x.year(1, 1, 0), 0);
        x.person(5, 0, 0, 0, false);
        // By 0 y is 74: C, who is not there, dares A.
        Due.is("year by 0", x.year(0, 1, 0), 0);
        x.person(2, 0, 0, 0, false);
        Due.is("year by 0 of C", x.year(0, 1, 0), 1);
        x.leave(2);
        x.leave(5);
        Due.is("year by -1", x.year(-1, 1, 0), O);
        Due.is("year by 10000", x.year(10000, 1, 0), O);
        Due.is("year by 9999", x.year(9999, 99, 0), 0);
        Due.is("year of 0", x.year(1, 0, 0), O);
        Due.is("year of 100", x.year(1, 100, 0), O);
        Due.is("year -1", x.year(1, 1, -1), O);
        Due.is("year 3", x.year(1, 1, 3), O);
    }

    /** Steps through a year's draws with summers that are done, where one in plaster for a night comes out again. */
    private static void yearOfNights() {
        for (int kept = 1; kept <= 3; kept++) {
            DareBridge x = new DareBridge();
            for (int p = 0; p < 6; p++) {
                x.person(p, p, 9 - p, 3 + p, false);
            }
            x.set(4, kept);
            x.set(5, 1);
            int[] due = stepped(kept);
            for (int what = 0; what < 3; what++) {
                Due.is("a year of 30, kept " + kept + ", " + what, x.year(7, 30, what), due[what]);
            }
        }
    }

    private static int[] stepped(int kept) {
        DareBridge x = new DareBridge();
        for (int p = 0; p < 6; p++) {
            x.person(p, p, 9 - p, 3 + p, false);
        }
        x.set(4, kept);
        x.set(5, 1);
        int[] count = new int[3];
        int y = 7;
        for (int i = 1; i <= 30; i++) {
            y = (75 * y + 74) % 65537;
            int p = y % 6, q = y / 6 % 6, h = Math.min(15, x.state(p, 1) + 2);
            boolean does = x.does(q, h) == 1;
            Due.say(x, "" + (char) ('A' + p) + (char) ('A' + q) + h / 10 + h % 10 + (does ? '+' : '-'));
            if (x.done() == 1) {
                count[does ? 0 : 1]++;
                count[2] += does && x.state(q, 2) > 0 ? 1 : 0;
            }
            x.wipe();
            if (i % 3 == 0) {
                x.say('.');
                x.done();
            }
        }
        return count;
    }

    private static void images() {
        DareBridge x = skilled();
        Due.is("restore ahead", x.restore(1), S);
        x.person(2, 1, 2, 3, true);
        x.seen(2, 9, 1);
        pridesAre(x, 2, 8, 2, 9);
        x.set(0, 5);
        x.say('.');
        Due.is("image", x.image(1), 1);
        Due.is("the other one is not kept", x.restore(0), S);
        x.wipe();
        Due.say(x, "AB08+BA08*..");
        x.done();
        x.leave(0);
        x.set(0, 1);
        x.set(4, 1);
        x.person(2, 3, 2, 1, false);
        x.forget();
        x.seen(1, 2, 0);
        x.seen(1, 3, 0);
        Due.say(x, "...");
        Due.is("image 0", x.image(0), 1);
        Due.is("restore 1", x.restore(1), 1);
        Due.is("the pad is not kept", x.told(0), 3);
        int[] due = {3, 7, 5, 3, 20, 1, 6, 0, 1, 1};
        for (int what = 0; what < due.length; what++) {
            Due.is("restored: told " + what, x.told(what), due[what]);
        }
        int[] dueOfC = {1, 2, 3, 1};
        for (int k = 0; k < 4; k++) {
            Due.is("restored: of C " + k, x.told(30 + k), dueOfC[k]);
        }
        pridesAre(x, 2, 8, 2, 9);
        pridesAre(x, 1, 10, 0, 9);
        Due.is("restored: fame", x.state(1, 0), 1000);
        Due.is("restored: high", x.state(1, 1), 3);
        x.leave(1);
        Due.is("restore 1 again", x.restore(1), 1);
        Due.is("what came behind is not kept", x.told(1), 7);
        Due.is("restore 0", x.restore(0), 1);
        Due.is("restored 0: people", x.told(1), 6);
        Due.is("restored 0: wish of C", x.told(33), 0);
        Due.is("restored 0: high of B", x.state(1, 1), 8);
        // B: 8, and 8 of the double, less two nights.
        Due.is("restored 0: fame of B", x.state(1, 0), 1014);
        Due.is("restored 0: x", x.told(8) != 1 ? 1 : 0, 1);
        Due.is("image -1", x.image(-1), O);
        Due.is("image 2", x.image(2), O);
        Due.is("restore -1", x.restore(-1), O);
        Due.is("restore 2", x.restore(2), O);
        DareBridge y = new DareBridge();
        y.image(0);
        y.person(2, 0, 0, 0, false);
        Due.is("an image of nobody", y.restore(0), 1);
        Due.is("nobody is there", y.told(1), 0);
    }

    private static void told() {
        DareBridge x = new DareBridge();
        x.person(0, 1, 2, 3, true);
        x.person(5, 4, 5, 6, false);
        x.say('!');
        Due.is("signs", x.told(0), 1);
        Due.is("people", x.told(1), 33);
        int[] a = {1, 2, 3, 1};
        int[] f = {4, 5, 6, 0};
        for (int k = 0; k < 4; k++) {
            Due.is("told of A " + k, x.told(10 + k), a[k]);
            Due.is("told of F " + k, x.told(60 + k), f[k]);
            Due.is("told of B " + k, x.told(20 + k), O);
            Due.is("told of nobody " + k, x.told(70 + k), O);
        }
        Due.is("told 14", x.told(14), O);
        Due.is("told 19", x.told(19), O);
        Due.is("told 64", x.told(64), O);
        Due.is("told -1", x.told(-1), O);
        Due.is("told -10", x.told(-10), O);
        Due.is("told most", x.told(Integer.MAX_VALUE), O);
        Due.is("told least", x.told(Integer.MIN_VALUE), O);
    }
}
