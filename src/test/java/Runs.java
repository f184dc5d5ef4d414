import java.util.function.Supplier;
import java.util.function.ToLongBiFunction;
import java.util.function.ToLongFunction;

/** What the tests of edges share: objects told by a text, and all that an object tells of itself. */
final class Runs {
    static final int NONE = -1, UNKNOWN = -2, OUTSIDE = -3, NOT = -4, FULL = -5;
    static final int[] WILD = {Integer.MIN_VALUE, Integer.MIN_VALUE + 1, -65536, -256, -32, Integer.MAX_VALUE,
        Integer.MAX_VALUE - 1, 65536, 1 << 30};
    static final String[] KINDS = {"dead", "tool", "gate", "being", "food"};

    private Runs() { }

    static void type(GoldTouch x, String text) {
        for (int i = 0; i < text.length(); i++) {
            x.write(text.charAt(i));
        }
    }

    static GoldTouch typed(String text) {
        GoldTouch x = new GoldTouch();
        type(x, text);
        return x;
    }

    static GoldTouch told(String text) {
        GoldTouch x = typed(text);
        if (x.court() < 1) {
            throw new IllegalArgumentException("the test's own text has a fault: " + text);
        }
        return x;
    }

    static GoldTouch tell(GoldTouch x, String text) {
        x.erase();
        type(x, text);
        if (x.court() < 1) {
            throw new IllegalArgumentException("the test's own text has a fault: " + text);
        }
        return x;
    }

    static GoldTouch idle(GoldTouch x, int times) {
        for (int i = 0; i < times; i++) {
            x.idle();
        }
        return x;
    }

    static String times(String part, int times, String between) {
        return String.join(between, java.util.Collections.nCopies(times, part));
    }

    /**
     * An object with something of all: thing 0 is eaten, 1 on a broken floor, 2 a food and 3 a tool, 4 a being elsewhere,
     * 5 a gate; minute 4, a keeping, a row, tasks, things seen, and a text with a fault.
     */
    static GoldTouch rich() {
        GoldTouch x = told("food 4 5 0;dead 5 1 1;food 3 9 0;tool 2 3 0;being 2 7 2;gate 4 6 0;bears 1 12;wash 1;noon 20");
        x.bathe();
        x.eat(0, NONE);
        x.touch(1);
        x.keep(0);
        x.bathe();
        x.put(3);
        x.put(5);
        x.task(4);
        x.task(2);
        x.look(1, 1, 0);
        x.look(4, 2, 0);
        type(x, "bare;wash 9");
        return x;
    }

    /** The same in minute 24. */
    static GoldTouch late() {
        return idle(rich(), 20);
    }

    /** What calls tell that change nothing. */
    static String asked(GoldTouch x) {
        StringBuilder all = new StringBuilder("count");
        for (int what = 0; what <= 12; what++) all.append(' ').append(x.count(what));
        for (int t = 0; t < x.count(0); t++) {
            all.append("\nthing ").append(t).append(':');
            for (int what = 0; what <= 6; what++) all.append(' ').append(x.thing(t, what));
            all.append(" fit ").append(x.fit(t));
        }
        for (int f = 0; f < 3; f++) {
            all.append("\nfloor ").append(f).append(':');
            for (int what = 0; what <= 3; what++) all.append(' ').append(x.floor(f, what));
        }
        all.append("\nhand");
        for (int m = 0; m <= 32; m++) all.append(' ').append(x.hand(m));
        all.append("\nfault ").append(x.fault());
        all.append("\ngoes ").append(x.goes(0)).append(' ').append(x.goes(1));
        all.append("\nplan ").append(x.plan(0)).append(' ').append(x.plan(1)).append(' ').append(x.plan(2));
        return all.toString();
    }

    /** And what only changing calls tell: tasks, what can be undone, what is kept. The object is used up by it. */
    static String all(GoldTouch x) {
        StringBuilder all = new StringBuilder(asked(x));
        all.append("\ntask");
        for (int t = 0; t < 8; t++) all.append(' ').append(x.task(t));
        for (int left = x.undo(); left >= 0; left = x.undo()) all.append("\nundo ").append(left).append(day(x));
        for (int k = 0; k < 2; k++) all.append("\nback ").append(x.back(k)).append(day(x));
        return all.append("\nerase ").append(x.erase()).toString();
    }

    private static String day(GoldTouch x) {
        StringBuilder day = new StringBuilder(":");
        for (int what = 4; what <= 7; what++) day.append(' ').append(x.count(what));
        return day.append(" hand ").append(x.hand(x.count(4))).append(' ').append(x.price(24)).toString();
    }

    /** A call is refused as is due, and all is as if it had not been. */
    static void refused(Check check, String call, Supplier<GoldTouch> made, ToLongFunction<GoldTouch> done, int want) {
        GoldTouch x = made.get();
        check.due(call, done.applyAsLong(x), want);
        same(check, call + " changes nothing", all(x), all(made.get()));
    }

    /** A call on the rich object with a thing that is none. */
    static void unknownThing(Check check, String call, ToLongBiFunction<GoldTouch, Integer> done) {
        for (int t : new int[] {-1, -2, 6, 7, 8}) {
            refused(check, call + " of " + t, Runs::rich, x -> done.applyAsLong(x, t), UNKNOWN);
        }
        for (int t : WILD) {
            refused(check, call + " of " + t, Runs::rich, x -> done.applyAsLong(x, t), UNKNOWN);
        }
    }

    /** A call on the rich object with a number next to its bounds, and far from them. */
    static void outside(Check check, String call, int least, int most, ToLongBiFunction<GoldTouch, Integer> done) {
        for (int n : new int[] {least - 1, most + 1}) {
            refused(check, call + " " + n, Runs::rich, x -> done.applyAsLong(x, n), OUTSIDE);
        }
        for (int n : WILD) {
            refused(check, call + " " + n, Runs::rich, x -> done.applyAsLong(x, n), OUTSIDE);
        }
    }

    static void changesNothing(Check check, String call, Supplier<GoldTouch> made, ToLongFunction<GoldTouch> done) {
        GoldTouch x = made.get();
        long first = done.applyAsLong(x);
        check.due(call + ", again", done.applyAsLong(x), first);
        same(check, call + " changes nothing", all(x), all(made.get()));
    }

    static void same(Check check, String what, String got, String want) {
        check.holds(got.equals(want) ? what : what + ":\n" + got + "\n-- due is\n" + want, got.equals(want));
    }
}
