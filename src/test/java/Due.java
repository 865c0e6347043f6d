import java.util.function.Supplier;
import java.util.function.ToLongFunction;

/** Counts the answers that are not the ones that are due. */
final class Due {
    private static int wrong = 0;
    private static int asked = 0;

    private Due() {
    }

    static void is(String call, long got, long want) {
        asked++;
        if (got != want) {
            wrong++;
            System.out.println(call + " answered " + got + ", due is " + want);
        }
    }

    static void same(String call, String got, String want) {
        asked++;
        if (!got.equals(want)) {
            wrong++;
            System.out.println(call + ": all answers now\n  " + got + "\nand without it\n  " + want);
        }
    }

    /** The call answers so, and all answers are then as those of an object that was not asked. */
    static void refused(String call, Supplier<DareBridge> made, ToLongFunction<DareBridge> ask, long want) {
        DareBridge asked = made.get();
        is(call, ask.applyAsLong(asked), want);
        same(call, Look.at(asked), Look.at(made.get()));
    }

    static void say(DareBridge bridge, String text) {
        for (char sign : text.toCharArray()) {
            bridge.say(sign);
        }
    }

    static void end() {
        System.out.println(asked + " answers, " + wrong + " not as due");
        if (wrong != 0) {
            System.exit(1);
        }
    }
}
