/** What an object answers by some 340 calls, its images at the end: two of one look have been told the same. */
final class Look {
    private static final int[][] TWOS = {{0, 1}, {1, 0}, {2, 4}, {3, 5}};

    private final DareBridge x;
    private final StringBuilder seen = new StringBuilder();

    private Look(DareBridge x) {
        this.x = x;
    }

    static String at(DareBridge x) {
        Look look = new Look(x);
        look.town();
        look.summer();
        look.people();
        look.twos();
        look.all();
        for (int n = 0; n < 2; n++) {
            look.note("restore", x.restore(n));
            look.town();
        }
        look.note("forget", x.forget());
        look.note("wipe", x.wipe());
        return look.seen.toString();
    }

    private void note(String call, long answer) {
        seen.append(call).append('=').append(answer).append(' ');
    }

    private void town() {
        for (int what = 0; what < 10; what++) {
            note("told" + what, x.told(what));
        }
        for (int p = 0; p < 6; p++) {
            for (int k = 0; k < 4; k++) {
                note("told" + p + "/" + k, x.told(10 + 10 * p + k));
            }
            for (int k = 0; k < 3; k++) {
                note("state" + p + k, x.state(p, k));
                note("prides" + p + k, x.prides(p, k));
            }
        }
    }

    private void summer() {
        note("fault", x.fault());
        for (int k = 0; k < 5; k++) {
            note("judge" + k, x.judge(k));
        }
        for (int k = 0; k < 2; k++) {
            note("ties" + k, x.ties(k));
            note("unhurt" + k, x.unhurt(k));
        }
        for (int p = 0; p < 6; p++) {
            for (int k = 0; k < 3; k++) {
                note("behind" + p + k, x.behind(p, k));
            }
        }
    }

    private void people() {
        for (int p = 0; p < 6; p++) {
            for (int k = 0; k < 3; k++) {
                note("nerve" + p + k, x.nerve(p, k));
            }
            note("odds" + p, x.odds(p, 12));
            note("worth" + p, x.worth(p, 12, 0));
            note("worth" + p, x.worth(p, 12, 1));
            note("likely" + p, x.likely(p, 9));
            note("refuser" + p, x.refuser(p, 9));
            note("enough" + p, x.enough(p));
            note("holds" + p, x.holds(p));
        }
    }

    private void twos() {
        for (int[] two : TWOS) {
            for (int k = 0; k < 3; k++) {
                note("climb" + k, x.climb(two[0], two[1], 2, 15, k));
                note("game" + k, x.game(two[0], two[1], 2, 15, k));
            }
            note("safe", x.safe(two[0], two[1], 2, 15, 0));
            note("law", x.law(two[0], two[1], 2, 1, 2));
        }
    }

    private void all() {
        note("won", x.won(0));
        note("won", x.won(1));
        for (int k = 0; k < 3; k++) {
            note("year" + k, x.year(1, 99, k));
        }
    }
}
