import java.util.List;
import java.util.function.Supplier;

/** Objects to ask. */
final class Made {
    /** Taken neither as a number of any call. */
    static final int[] EXTREMES = {Integer.MIN_VALUE, Integer.MIN_VALUE + 1, Integer.MAX_VALUE - 1, Integer.MAX_VALUE};
    /** Nobody of the town: no numbers of people, and F, who is not there. */
    static final int[] NOBODY = {-1, 5, 6, 32, Integer.MIN_VALUE, Integer.MAX_VALUE};

    private Made() {
    }

    /** Nothing in it is as at first: A to E are there, some with fame, some in plaster; both images, sights, a summer. */
    static DareBridge town() {
        DareBridge x = new DareBridge();
        int[] rules = {3, 2, 15, 2, 9, 1, 0};
        for (int which = 0; which < rules.length; which++) {
            x.set(which, rules[which]);
        }
        x.person(0, 5, 1, 7, false);
        x.person(1, 0, 2, 3, false);
        x.image(0);
        x.person(2, 9, 3, 4, true);
        x.person(3, 8, 4, 9, false);
        x.set(1, 5);
        x.person(4, 7, 0, 1, false);
        // B is hurt by 5, D not by 4; E refuses 7.
        Due.say(x, "AB05+.CD04*CE06-");
        x.done();
        x.seen(0, 9, 1);
        x.seen(1, 9, 0);
        x.image(1);
        Due.say(x, "DA06+.");
        x.done();
        x.seen(3, 12, 1);
        x.set(0, 4);
        // C does 6, then E and C 9, by which C is hurt.
        Due.say(x, "DC06+EC09*.");
        return x;
    }

    static DareBridge town(String more) {
        DareBridge x = town();
        Due.say(x, more);
        return x;
    }

    static DareBridge townOfFault() {
        return town("DA");
    }

    static DareBridge townThatCanNotBe() {
        return town("AA01+");
    }

    /** Both: the fault is told first. */
    static DareBridge townThatCanNotBeOfFault() {
        return town("AA01+D");
    }

    /** A summer that can be, one of a fault, one that can not be, and one of both. */
    static List<Supplier<DareBridge>> texts() {
        return List.of(Made::town, Made::townOfFault, Made::townThatCanNotBe, Made::townThatCanNotBeOfFault);
    }

    static DareBridge townOfSixtySigns() {
        return town(".".repeat(49));
    }

    static DareBridge townOfSixSights() {
        DareBridge x = town();
        for (int n = 0; n < 3; n++) {
            x.seen(4, 4 + n, 1);
        }
        return x;
    }

    /** A to the one before the number told, of skill 9 and neither fear nor pride. */
    static DareBridge skilled(int people) {
        DareBridge x = new DareBridge();
        for (int p = 0; p < people; p++) {
            x.person(p, 9, 0, 0, false);
        }
        return x;
    }

    /** Two alike, A and B. */
    static DareBridge two(int skill, int fear, int pride) {
        DareBridge x = new DareBridge();
        x.person(0, skill, fear, pride, false);
        x.person(1, skill, fear, pride, false);
        return x;
    }

    /** A on, of the same skill, fearless, by what each has done at the most (0 to 9); START is 3 behind it. */
    static DareBridge highs(int skill, int... highs) {
        DareBridge x = new DareBridge();
        for (int p = 0; p < highs.length; p++) {
            x.set(1, highs[p]);
            x.person(p, skill, 0, 9, false);
        }
        x.set(1, 3);
        return x;
    }
}
