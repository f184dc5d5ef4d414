import java.util.function.ToLongBiFunction;
import java.util.function.ToLongFunction;

/** Terms 3 and promises 18 to 33, sentence by sentence: what is foretold, and where it stops. */
public final class ForetoldEdgesTest {
    private static final int NONE = -1, UNKNOWN = -2, OUTSIDE = -3, NOT = -4, FULL = -5;
    private static final Check CHECK = new Check("ForetoldEdgesTest");

    private static void sentence(String words) {
        CHECK.sentence(words);
    }

    private static void due(String call, long got, long want) {
        CHECK.due(call, got, want);
    }

    private static void refused(String call, ToLongFunction<GoldTouch> done, int want) {
        Runs.refused(CHECK, call, Runs::rich, done, want);
    }

    private static void unknownThing(String call, ToLongBiFunction<GoldTouch, Integer> done) {
        Runs.unknownThing(CHECK, call, done);
    }

    private static void outside(String call, int least, int most, ToLongBiFunction<GoldTouch, Integer> done) {
        Runs.outside(CHECK, call, least, most, done);
    }

    public static void main(String[] args) {
        nothingChanges();
        townGates();
        townSets();
        townFloors();
        townBest();
        townCall();
        row();
        goes();
        goesCall();
        tasks();
        theTool();
        planMinutes();
        planWays();
        planCost();
        planBest();
        planLost();
        planCall();
        price();
        sell();
        thief();
        thiefCall();
        look();
        fit();
        fitCall();
        bathSets();
        bathMinutes();
        bathsCall();
        slips();
        slipsCall();
        count();
        CHECK.end();
    }

    private static void nothingChanges() {
        sentence("FORETOLD (nothing changes)");
        Runs.changesNothing(CHECK, "town", Runs::rich, x -> x.town(1, 1));
        Runs.changesNothing(CHECK, "goes", Runs::rich, x -> x.goes(0));
        Runs.changesNothing(CHECK, "plan", Runs::rich, x -> x.plan(2));
        Runs.changesNothing(CHECK, "price", Runs::rich, x -> x.price(24));
        Runs.changesNothing(CHECK, "sell", Runs::rich, x -> x.sell(0));
        Runs.changesNothing(CHECK, "thief", Runs::rich, x -> x.thief(0));
        Runs.changesNothing(CHECK, "fit", Runs::rich, x -> x.fit(2));
        Runs.changesNothing(CHECK, "baths", Runs::rich, x -> x.baths(6, 1));
        Runs.changesNothing(CHECK, "slips", Runs::rich, x -> x.slips(1, 2, 1, 0));
        Runs.changesNothing(CHECK, "count", Runs::rich, x -> x.count(5));
        Runs.changesNothing(CHECK, "hand", Runs::rich, x -> x.hand(5));
        Runs.changesNothing(CHECK, "floor", Runs::rich, x -> x.floor(0, 3));
        Runs.changesNothing(CHECK, "as", Runs::rich, x -> x.as(1, 1));
    }

    // ---- promise 18

    private static void townDue(GoldTouch x, int g, int much, int set) {
        due("town " + g + ", how much", x.town(g, 0), much);
        due("town " + g + ", the set", x.town(g, 1), set);
    }

    private static void townGates() {
        sentence("TOWN of g (0 .. 8) GATES");
        GoldTouch x = Runs.told(Runs.times("gate 1 1 0", 8, ";"));
        for (int g = 0; g <= 8; g++) {
            townDue(x, g, 24 - 2 * g, (1 << (8 - g)) - 1);
        }
        sentence("g GATES at least (more may be open)");
        x = Runs.told("gate 1 9 0;gate 1 8 0;gate 1 7 0");
        for (int g = 0; g <= 3; g++) {
            townDue(x, g, 24, 0);
        }
        sentence("g GATES .. that are not GOLD");
        x = Runs.told("gate 2 0 0;gate 2 0 0;wash 0;chill 1;noon 9");
        townDue(x, 1, 6, 1);
        townDue(x, 2, 0, 0);
        x.touch(0);
        townDue(x, 1, 6, 0);
        townDue(x, 2, NONE, NONE);
        x.bathe();
        x.touch(1);
        due("till noon is gold, too", x.town(1, 0), NONE);
        Runs.idle(x, 6);
        townDue(x, 1, 6, 0);
        sentence("g GATES at least (.. on no BROKEN FLOOR)");
        x = Runs.told("gate 2 9 0;gate 3 10 1;bears 1 2");
        x.idle();
        townDue(x, 1, 9, 0);
        townDue(x, 2, NONE, NONE);
        sentence("GATES alone");
        due("other kinds are no gates", Runs.told("dead 1 5 0;tool 1 5 0;being 1 5 0;food 1 5 0").town(1, 0), NONE);
    }

    private static void townSets() {
        sentence("sets of THINGS that are not GOLD for ever");
        GoldTouch x = Runs.told("dead 5 1 0;dead 4 1 0");
        x.touch(0);
        townDue(x, 0, 27, 2);
        sentence("not EATEN");
        x = Runs.told("food 5 1 0;dead 4 1 0;wash 1");
        x.bathe();
        x.eat(0, NONE);
        townDue(x, 0, 12, 2);
        sentence("on no BROKEN FLOOR");
        x = Runs.told("dead 5 1 0;dead 4 1 1;bears 0 4");
        x.idle();
        townDue(x, 0, 12, 2);
        sentence("no BEINGS");
        townDue(Runs.told("being 5 1 0;dead 4 1 0"), 0, 13, 2);
        townDue(Runs.told("being 5 1 0"), 0, 1, 0);
        sentence("of no THINGS at all");
        townDue(new GoldTouch(), 0, 0, 0);
        townDue(new GoldTouch(), 1, NONE, NONE);
        sentence("(what is GOLD till NOON may be in a set, which helps nobody)");
        x = Runs.told("dead 5 1 0;wash 0;chill 1;noon 9");
        x.bathe();
        x.touch(0);
        townDue(x, 0, 15, 0);
    }

    private static void townFloors() {
        sentence("which .. would leave no FLOOR that is not BROKEN with more LOAD than it BEARS");
        for (int f = 0; f < 3; f++) {
            townDue(Runs.told("dead 5 1 " + f + ";bears " + f + " 15"), 0, 15, 1);
            townDue(Runs.told("dead 5 1 " + f + ";bears " + f + " 14"), 0, 1, 0);
        }
        townDue(Runs.told("dead 5 1 0;dead 4 1 0;bears 0 20"), 0, 16, 1);
        townDue(Runs.told("dead 5 1 0;dead 4 1 0;bears 0 26"), 0, 16, 1);
        townDue(Runs.told("dead 5 1 0;dead 4 1 0;bears 0 27"), 0, 27, 3);
        GoldTouch x = Runs.told("dead 5 1 0;dead 4 1 1;dead 9 1 1;bears 1 12");
        due("a floor is too much loaded already", x.town(0, 0), NONE);
        x.idle();
        townDue(x, 0, 15, 1);
        sentence("were they GOLD for ever now, too (besides what is GOLD now)");
        x = Runs.told("dead 5 1 0;dead 4 1 0;bears 0 20;wash 0;chill 1;noon 9");
        x.bathe();
        x.touch(0);
        townDue(x, 0, 16, 0);
    }

    private static void townBest() {
        sentence("that by which the PRICES of all together are most");
        townDue(Runs.told("dead 2 40 0;dead 3 1 0"), 0, 49, 2);
        townDue(Runs.told("dead 20 40 0;dead 20 40 0;bears 0 80"), 0, 100, 1);
        townDue(Runs.told("dead 6 2 0;dead 5 0 0;dead 4 0 0;bears 0 33"), 0, 29, 6);
        sentence("of several the least (by bits)");
        townDue(Runs.told("dead 3 1 0;dead 3 1 0;bears 0 12"), 0, 10, 1);
        townDue(Runs.told("dead 2 6 0"), 0, 6, 0);
        townDue(Runs.told("dead 2 6 0;dead 3 1 0"), 0, 15, 2);
        sentence("how much; none");
        townDue(Runs.told("dead 2 6 0;bears 0 1"), 0, NONE, NONE);
        townDue(Runs.told("gate 2 6 0"), 2, NONE, NONE);
        townDue(Runs.told("gate 2 0 0"), 1, 0, 0);
    }

    private static void townCall() {
        sentence("town: OUTSIDE: g");
        outside("town, g", 0, 8, (x, g) -> x.town(g, 0));
        sentence("town: OUTSIDE: .. what");
        outside("town, what", 0, 1, (x, what) -> x.town(0, what));
    }

    // ---- promises 19 to 21

    private static void row() {
        sentence("THE ROW is a row of THINGS, 8 at most");
        GoldTouch x = Runs.told("dead 5 0 0;dead 5 0 1");
        for (int i = 1; i <= 8; i++) {
            due("put", x.put(i & 1), i);
        }
        due("full", x.put(0), FULL);
        due("8", x.count(8), 8);
        sentence("put: A THING behind THE ROW: how many it has (one may stand there twice, EATEN, on a BROKEN FLOOR)");
        x = Runs.rich();
        due("again", x.put(3), 3);
        due("eaten", x.put(0), 4);
        due("broken", x.put(1), 5);
        due("minute", x.count(4), 4);
        sentence("put: UNKNOWN");
        unknownThing("put", GoldTouch::put);
        sentence("put: FULL");
        Runs.refused(CHECK, "put", ForetoldEdgesTest::fullRow, y -> y.put(2), FULL);
        sentence("put: UNKNOWN; FULL: the first of these that fits");
        Runs.refused(CHECK, "put", ForetoldEdgesTest::fullRow, y -> y.put(6), UNKNOWN);
        sentence("wipe: THE ROW is empty: how many it had");
        x = fullRow();
        due("full", x.wipe(), 8);
        due("empty", x.count(8), 0);
        due("goes", x.goes(0), NONE);
        due("again", x.wipe(), 0);
        due("put", x.put(0), 1);
    }

    private static GoldTouch fullRow() {
        GoldTouch x = Runs.rich();
        for (int i = 0; i < 6; i++) x.put(5);
        return x;
    }

    private static void goesDue(GoldTouch x, int place, int floor) {
        due("goes, place", x.goes(0), place);
        due("goes, floor", x.goes(1), floor);
    }

    private static void goes() {
        sentence("GOES: were they GOLD for ever, one after another .. : the first place behind which a FLOOR .. has more LOAD");
        GoldTouch x = Runs.told("dead 5 0 0;dead 5 0 0;dead 5 0 0;dead 5 0 2;bears 0 35;bears 2 14");
        x.put(0);
        x.put(1);
        goesDue(x, NONE, NONE);
        x.put(2);
        goesDue(x, 2, 0);
        x.put(3);
        goesDue(x, 2, 0);
        x.wipe();
        x.put(3);
        x.put(0);
        goesDue(x, 0, 2);
        sentence("more LOAD than it BEARS (just so much is no more)");
        goesDue(rowOf("dead 5 0 0;bears 0 15", 1), NONE, NONE);
        goesDue(rowOf("dead 5 0 0;bears 0 14", 1), 0, 0);
        goesDue(rowOf("dead 3 0 1;dead 3 0 1;bears 1 12", 2), 1, 1);
        sentence("the eighth place");
        goesDue(rowOf(Runs.times("dead 1 0 0", 8, ";") + ";bears 0 23", 8), 7, 0);
        goesDue(rowOf(Runs.times("dead 1 0 0", 8, ";") + ";bears 0 24", 8), NONE, NONE);
        sentence("none (an empty ROW, though a FLOOR has too much already)");
        goesDue(Runs.told("dead 5 0 0;bears 0 4"), NONE, NONE);
        goesDue(new GoldTouch(), NONE, NONE);
        sentence("which FLOOR (of several the least)");
        goesDue(rowOf("dead 5 0 0;dead 5 0 2;dead 5 0 1;bears 2 4;bears 1 4", 1), 0, 1);
        goesDue(rowOf("dead 5 0 2;dead 5 0 1;dead 5 0 0;bears 2 4;bears 0 4", 1), 0, 0);
        goesOfDeeds();
    }

    private static GoldTouch rowOf(String text, int things) {
        GoldTouch x = Runs.told(text);
        for (int t = 0; t < things; t++) x.put(t);
        return x;
    }

    private static void goesOfDeeds() {
        sentence("a THING that stands twice in THE ROW is GOLD once");
        GoldTouch x = Runs.told("dead 5 0 0;bears 0 15");
        x.put(0);
        x.put(0);
        goesDue(x, NONE, NONE);
        sentence("a FLOOR that is not BROKEN");
        x = rowOf("dead 5 0 0;dead 5 0 1;bears 0 4;bears 1 14", 2);
        goesDue(x, 0, 0);
        x.idle();
        goesDue(x, 1, 1);
        sentence("from now on (what is GOLD, EATEN now stays so)");
        x = Runs.told("food 5 0 0;dead 5 0 0;bears 0 15;wash 1;chill 1;noon 9");
        x.put(1);
        goesDue(x, 0, 0);
        x.bathe();
        x.eat(0, NONE);
        goesDue(x, NONE, NONE);
        x.put(0);
        goesDue(x, NONE, NONE);
        x = Runs.told("dead 5 0 0;dead 2 0 0;bears 0 20;wash 0;chill 1;noon 9");
        x.put(1);
        goesDue(x, NONE, NONE);
        x.bathe();
        x.touch(0);
        goesDue(x, 0, 0);
    }

    private static void goesCall() {
        sentence("goes: OUTSIDE");
        outside("goes", 0, 1, GoldTouch::goes);
    }

    // ---- promises 22 to 24

    private static GoldTouch fullTasks() {
        GoldTouch x = Runs.rich();
        x.task(0);
        x.task(1);
        return x;
    }

    private static void tasks() {
        sentence("TASKS are THINGS, 4 at most, each once");
        GoldTouch x = Runs.told(Runs.times("dead 1 0 0", 8, ";"));
        for (int t = 0; t < 4; t++) {
            due("task", x.task(7 - t), t + 1);
            due("once", x.task(7 - t), NOT);
        }
        due("a fifth", x.task(0), FULL);
        due("4", x.count(9), 4);
        sentence("task: UNKNOWN");
        unknownThing("task", GoldTouch::task);
        sentence("task: NOT: it is one");
        refused("task", y -> y.task(4), NOT);
        sentence("task: FULL: 4");
        Runs.refused(CHECK, "task", ForetoldEdgesTest::fullTasks, y -> y.task(3), FULL);
        sentence("task: UNKNOWN; NOT; FULL: the first of these that fits");
        Runs.refused(CHECK, "unknown", ForetoldEdgesTest::fullTasks, y -> y.task(6), UNKNOWN);
        Runs.refused(CHECK, "it is one", ForetoldEdgesTest::fullTasks, y -> y.task(0), NOT);
        sentence("drop: There are no TASKS: how many there were");
        x = fullTasks();
        due("drop", x.drop(), 4);
        due("none", x.count(9), 0);
        due("again", x.drop(), 0);
        due("anew", x.task(0), 1);
    }

    private static void theTool() {
        sentence("THE TOOL of a FLOOR that is not BROKEN is one of the TOOLS on it");
        GoldTouch x = Runs.told("dead 1 0 0;gate 1 0 0;being 1 0 0;food 1 0 0;tool 3 0 1;tool 9 0 2;bears 2 8");
        due("no tool on it", x.floor(0, 3), NONE);
        due("one", x.floor(1, 3), 4);
        due("not broken yet", x.floor(2, 3), 5);
        x.idle();
        due("broken", x.floor(2, 3), NONE);
        sentence("that is no TASK (as all is now)");
        x.task(4);
        due("a task", x.floor(1, 3), NONE);
        x.drop();
        due("none", x.floor(1, 3), 4);
        sentence("one GOLD for ever");
        x = Runs.told("tool 2 0 0;tool 9 0 0;tool 1 0 0;wash 0;chill 1;noon 9");
        due("the lightest", x.floor(0, 3), 2);
        x.touch(1);
        due("gold", x.floor(0, 3), 1);
        x.touch(0);
        due("of several the least", x.floor(0, 3), 0);
        x.task(0);
        due("the other one", x.floor(0, 3), 1);
        x = Runs.told("tool 1 0 0;tool 20 0 0;wash 0;chill 1;noon 9");
        x.touch(1);
        due("gold is ahead of the lightest", x.floor(0, 3), 1);
        x.undo();
        x.bathe();
        x.touch(1);
        due("till noon is not for ever", x.floor(0, 3), 0);
        sentence("else the one of least WEIGHT, of several the least");
        due("weight", Runs.told("tool 3 0 0;tool 2 0 0;tool 1 0 1").floor(0, 3), 1);
        due("of several", Runs.told("tool 3 0 0;tool 2 0 0;tool 2 0 0").floor(0, 3), 1);
        x = Runs.told("tool 2 0 0;tool 3 0 0;wash 0;chill 1;noon 9");
        x.bathe();
        x.touch(0);
        due("its weight, not what it weighs", x.floor(0, 3), 0);
    }

    private static void planDue(GoldTouch x, int cost, int end, int first) {
        due("plan, cost", x.plan(0), cost);
        due("plan, end", x.plan(1), end);
        due("plan, first", x.plan(2), first);
    }

    private static GoldTouch tasked(String text, int... tasks) {
        GoldTouch x = Runs.told(text);
        for (int t : tasks) x.task(t);
        return x;
    }

    private static void planMinutes() {
        sentence("PLAN from this MINUTE on: in each MINUTE (up to 23)");
        GoldTouch x = tasked("dead 1 0 0;wash 1", 0);
        planDue(x, 0, 1, 2);
        Runs.idle(x, 22);
        planDue(x, 0, 23, 2);
        x.idle();
        planDue(x, NONE, NONE, NONE);
        x.undo();
        x.bathe();
        planDue(x, 0, 23, 10);
        x.idle();
        planDue(x, NONE, NONE, NONE);
        x = tasked("dead 1 0 0;tool 4 0 0;wash 0;chill 0", 0);
        Runs.idle(x, 23);
        planDue(x, 4, 23, 20);
        x.idle();
        planDue(x, NONE, NONE, NONE);
        x = tasked("dead 1 0 0;dead 1 0 0;tool 4 0 0;wash 0;chill 0", 0, 1);
        Runs.idle(x, 22);
        planDue(x, 4, 23, 20);
        x.idle();
        planDue(x, NONE, NONE, NONE);
    }

    private static void planWays() {
        sentence("he HANDLES one of them that he did not yet, by his CLEAN HAND");
        planDue(tasked("dead 1 0 0;dead 1 0 1;dead 1 0 2;dead 1 0 0;wash 4", 0, 1, 2, 3), 0, 4, 2);
        planDue(tasked("dead 1 0 0;dead 1 0 1;dead 1 0 2;dead 1 0 0;wash 3", 0, 1, 2, 3), 0, 5, 2);
        planDue(tasked("dead 1 0 0;dead 1 0 1;dead 1 0 2;dead 1 0 0;wash 1", 0, 1, 2, 3), 0, 7, 2);
        sentence("or BY THE TOOL of its FLOOR");
        planDue(tasked("dead 1 0 0;tool 4 0 0;wash 0", 0), 0, 1, 2);
        planDue(tasked("dead 1 0 0;tool 4 0 0;wash 0;noon 0", 0), 4, 0, 20);
        planDue(tasked("dead 1 0 0;tool 4 0 1;wash 0;noon 0", 0), NONE, NONE, NONE);
        sentence("THE TOOL .. is no TASK");
        planDue(tasked("dead 1 0 0;tool 4 0 0;wash 0;noon 0", 0, 1), NONE, NONE, NONE);
        planDue(tasked("dead 1 0 0;tool 4 0 0;tool 9 0 0;wash 0;noon 0", 0, 1), 9, 1, 20);
        sentence("THE TOOL .. (as all is now): another one that is GOLD for ever by the way is not");
        planDue(tasked("dead 1 0 0;dead 1 0 0;tool 4 0 0;tool 3 0 0;wash 0;chill 0", 0, 1), 3, 1, 20);
        sentence("(Whatever FLOORS bear");
        GoldTouch x = tasked("dead 1 0 0;dead 1 0 0;tool 9 0 0;bears 0 11;wash 0;chill 0", 0, 1);
        planDue(x, 9, 1, 20);
        x = tasked("dead 9 0 0;dead 1 0 0;bears 0 4;wash 2", 0, 1);
        planDue(x, 0, 2, 2);
        sentence("TASKS that are GOLD can be HANDLED");
        x = tasked("dead 1 0 0;wash 1", 0);
        x.touch(0);
        planDue(x, 0, 2, 2);
    }

    private static void planCost() {
        sentence("COST is the WEIGHT of all that is GOLD for ever by it");
        planDue(tasked("dead 1 0 0;dead 1 0 1;dead 1 0 2;tool 20 0 0;tool 19 0 1;tool 18 0 2;wash 0;chill 0", 0, 1, 2), 57, 2, 20);
        planDue(tasked("dead 1 0 0;dead 1 0 0;dead 1 0 0;tool 20 0 0;wash 0;chill 0", 0, 1, 2), 20, 2, 20);
        sentence("and was not");
        GoldTouch x = tasked("dead 1 0 0;tool 20 0 0;wash 0;chill 0", 0);
        x.touch(1);
        planDue(x, 0, 1, 20);
        sentence("what is GOLD till NOON by it is none of it");
        planDue(tasked("dead 1 0 0;tool 20 0 0;wash 0;chill 1;noon 2", 0), 0, 1, 2);
        planDue(tasked("dead 1 0 0;tool 20 0 0;wash 0;chill 1;noon 1", 0), 20, 0, 20);
        sentence("what was GOLD till NOON was not GOLD for ever");
        x = tasked("dead 1 0 0;tool 20 0 0;wash 0;chill 1;noon 24", 0);
        Runs.idle(x, 21);
        x.bathe();
        planDue(x, 0, 22, 20);
        x.touch(1);
        due("till noon", x.thing(1, 4), 1);
        planDue(x, 20, 23, 20);
    }

    private static void planBest() {
        sentence("least COST");
        planDue(tasked("dead 1 0 0;tool 1 0 0;wash 1;chill 0", 0), 0, 1, 2);
        planDue(tasked("dead 1 0 0;dead 1 0 0;dead 1 0 0;dead 1 0 0;tool 1 0 0;wash 1;chill 0", 0, 1, 2, 3), 0, 7, 2);
        sentence("of several ways the soonest");
        GoldTouch x = tasked("dead 1 0 0;tool 1 0 0;wash 1;chill 0", 0);
        x.touch(1);
        planDue(x, 0, 1, 20);
        sentence("of these the one of the least first DEED");
        planDue(clean("dead 1 0 0;dead 1 0 0;wash 2", 1), 0, 2, 10);
        sentence("1 he RESTS (which is never the soonest)");
        for (int wash = 0; wash <= 4; wash++) {
            x = tasked("dead 1 0 0;dead 1 0 1;tool 3 0 1;wash " + wash + ";chill 2;noon 8", 0, 1);
            for (int m = 0; m < 24; m++) {
                CHECK.holds("no rest", x.plan(2) != 1);
                if (m % 5 == 2) x.bathe();
                else x.idle();
            }
        }
        sentence("2 BATHES (ahead of 10 and T)");
        planDue(clean("dead 1 0 0;dead 1 0 0;wash 2", 2), 0, 4, 2);
        sentence("10 and T: TASK T by his HAND");
        x = Runs.told(Runs.times("dead 1 0 0", 8, ";") + ";wash 1");
        x.bathe();
        for (int t = 0; t < 8; t++) {
            x.drop();
            x.task(t);
            planDue(x, 0, 1, 10 + t);
        }
        x.task(3);
        due("not the least told, the least by number", x.plan(2), 13);
        sentence("10 and T ahead of 20 and T");
        x = Runs.told("dead 1 0 0;tool 3 0 0;wash 1");
        x.bathe();
        x.task(0);
        planDue(x, 0, 1, 10);
        sentence("20 and T: BY THE TOOL");
        x = Runs.told("tool 3 0 0;" + Runs.times("dead 1 0 0", 7, ";") + ";wash 0;chill 0");
        for (int t = 1; t < 8; t++) {
            x.drop();
            x.task(t);
            planDue(x, 3, 0, 20 + t);
        }
        x = tasked("tool 3 0 0;dead 1 0 0;dead 1 0 0;wash 0;chill 1;noon 9", 2);
        x.bathe();
        planDue(x, 0, 1, 22);
    }

    /** Tasks 0 and 1, in the minute so many behind the bath. */
    private static GoldTouch clean(String text, int behind) {
        GoldTouch x = tasked(text, 1, 0);
        x.bathe();
        return Runs.idle(x, behind - 1);
    }

    private static void planLost() {
        sentence("TASKS on BROKEN FLOORS .. cannot be HANDLED");
        GoldTouch x = tasked("dead 1 0 0;dead 9 0 1;bears 1 8", 0, 1);
        planDue(x, 0, 2, 2);
        x.idle();
        planDue(x, NONE, NONE, NONE);
        x.drop();
        x.task(0);
        planDue(x, 0, 2, 2);
        sentence("EATEN ones cannot be HANDLED");
        x = tasked("food 1 0 0;dead 9 0 1", 0, 1);
        x.bathe();
        planDue(x, 0, 2, 10);
        x.eat(0, NONE);
        planDue(x, NONE, NONE, NONE);
        sentence("None: there is no way");
        planDue(tasked("dead 1 0 0;wash 0", 0), NONE, NONE, NONE);
    }

    private static void planCall() {
        sentence("plan: (.. NONE: there are no TASKS)");
        planDue(new GoldTouch(), 0, NONE, NONE);
        planDue(Runs.idle(new GoldTouch(), 24), 0, NONE, NONE);
        planDue(Runs.told("dead 1 0 0;tool 1 0 0"), 0, NONE, NONE);
        sentence("plan: OUTSIDE");
        outside("plan", 0, 2, GoldTouch::plan);
        Runs.refused(CHECK, "plan 3 of no tasks", GoldTouch::new, x -> x.plan(3), OUTSIDE);
        Runs.refused(CHECK, "plan 3, if there is no way", () -> tasked("dead 1 0 0;wash 0", 0), x -> x.plan(3), OUTSIDE);
    }

    // ---- promises 25 to 27

    private static GoldTouch pricey() {
        GoldTouch x = Runs.told("dead 5 20 0;dead 4 1 1;food 1 7 2;wash 0;chill 4;noon 6");
        x.bathe();
        x.touch(0);
        x.touch(1);
        return x;
    }

    private static void price() {
        sentence("PRICES in a MINUTE to come: of all together, if he RESTS till then");
        GoldTouch x = pricey();
        due("now", x.price(3), 15 + 12 + 7);
        due("ahead of noon", x.price(5), 15 + 12 + 7);
        due("noon", x.price(6), 20 + 1 + 7);
        due("the end", x.price(24), 28);
        due("of nothing", new GoldTouch().price(0), 0);
        due("a floor that has too much", Runs.told("dead 5 20 0;bears 0 4").price(0), 20);
        due("breaks by the first rest", Runs.told("dead 5 20 0;bears 0 4").price(1), 0);
        sentence("price: OUTSIDE: it is gone by");
        due("gone by", x.price(2), OUTSIDE);
        due("0", x.price(0), OUTSIDE);
        due("-1", x.price(-1), OUTSIDE);
        due("this one is not", new GoldTouch().price(0), 0);
        due("in 24", Runs.idle(pricey(), 21).price(24), 28);
        due("23 then", Runs.idle(pricey(), 21).price(23), OUTSIDE);
        sentence("price: OUTSIDE: .. above 24");
        due("25", x.price(25), OUTSIDE);
        outside("price", 4, 24, GoldTouch::price);
    }

    private static void sellDue(GoldTouch x, int minute, int prices) {
        due("sell, minute", x.sell(0), minute);
        due("sell, prices", x.sell(1), prices);
    }

    private static void sell() {
        sentence("SELL: the MINUTE from this one on (up to 24) in which PRICES are most");
        sellDue(pricey(), 3, 34);
        GoldTouch x = Runs.told("dead 1 20 0;wash 0;chill 1;noon 24");
        x.bathe();
        x.touch(0);
        sellDue(x, 24, 20);
        x = Runs.told("dead 1 20 0;wash 0;chill 1;noon 9");
        x.bathe();
        x.touch(0);
        sellDue(x, 9, 20);
        sellDue(Runs.idle(pricey(), 21), 24, 28);
        sellDue(Runs.told("dead 5 20 0;bears 0 4"), 0, 20);
        sentence("of several the first");
        sellDue(new GoldTouch(), 0, 0);
        sellDue(Runs.idle(Runs.told("dead 1 20 0"), 7), 7, 20);
        x = Runs.told("dead 4 12 0;wash 0;chill 1;noon 9");
        x.bathe();
        x.touch(0);
        sellDue(x, 2, 12);
        sentence("sell: OUTSIDE");
        outside("sell", 0, 1, GoldTouch::sell);
    }

    private static void thiefDue(GoldTouch x, int many, int thing, int floor) {
        due("thief, how many", x.thief(0), many);
        due("thief, thing", x.thief(1), thing);
        due("thief, floor", x.thief(2), floor);
    }

    private static void thief() {
        sentence("the THIEF has 3 times its WEIGHT less its PRICE now");
        thiefDue(Runs.told("dead 5 14 1"), 1, 0, 1);
        thiefDue(Runs.told("dead 5 15 1"), 3, 0, 0);
        GoldTouch x = Runs.told("dead 5 1 1;wash 0;chill 1;noon 9");
        thiefDue(x, 1, 0, 1);
        x.touch(0);
        thiefDue(x, 3, 0, 0);
        sentence("(nothing, if that is below 0");
        thiefDue(Runs.told("dead 1 40 0"), 3, 0, 0);
        thiefDue(Runs.told("dead 1 40 0;dead 1 39 1;dead 1 3 2"), 9, 0, 0);
        sentence("if it is EATEN");
        x = Runs.told("food 5 1 1;wash 1");
        x.bathe();
        thiefDue(x, 1, 0, 1);
        x.eat(0, NONE);
        thiefDue(x, 3, 0, 0);
        sentence("if the GUARD is on its FLOOR)");
        thiefDue(Runs.told("dead 5 1 2"), 1, 0, 2);
        thiefDue(Runs.told("dead 5 1 2;being 4 1 2"), 2, 0, 2);
        sentence("its PRICE now: nothing on a BROKEN FLOOR");
        x = Runs.told("dead 5 15 2;bears 2 4");
        thiefDue(x, 3, 0, 0);
        x.idle();
        thiefDue(x, 1, 0, 2);
        sentence("pairs in which the THIEF would have no more by any other THING");
        thiefDue(Runs.told("dead 5 15 0;dead 5 3 2"), 2, 0, 2);
        sentence("the GUARD leave him no less by any other FLOOR");
        thiefDue(Runs.told("dead 5 3 0;dead 5 3 1"), 0, NONE, NONE);
        thiefDue(Runs.told("dead 5 3 0;dead 2 5 1"), 0, NONE, NONE);
    }

    private static void thiefCall() {
        sentence("thief: (1; NONE), (2; NONE)");
        thiefDue(new GoldTouch(), 0, NONE, NONE);
        sentence("thief: how many (24 at most)");
        thiefDue(Runs.told(Runs.times("dead 1 3 0", 8, ";")), 24, 0, 0);
        sentence("thief: OUTSIDE");
        outside("thief", 0, 2, GoldTouch::thief);
    }

    // ---- promises 28 to 30

    private static GoldTouch fullSeen() {
        GoldTouch x = Runs.rich();
        for (int i = 0; i < 4; i++) x.look(2, i, 0);
        return x;
    }

    private static void look() {
        sentence("SEEN, 6 at most");
        GoldTouch x = Runs.idle(Runs.told("dead 1 0 0"), 1);
        for (int i = 1; i <= 6; i++) {
            due("look", x.look(0, 0, i & 1), i);
        }
        due("a seventh", x.look(0, 0, 1), FULL);
        due("6", x.count(10), 6);
        sentence("in a MINUTE gone by");
        x = Runs.told("dead 1 0 0");
        due("none is", x.look(0, 0, 0), OUTSIDE);
        x.idle();
        due("0 is", x.look(0, 0, 0), 1);
        due("1 is not", x.look(0, 1, 0), OUTSIDE);
        Runs.idle(x, 23);
        due("23 is", x.look(0, 23, 0), 2);
        due("24 is not", x.look(0, 24, 0), OUTSIDE);
        sentence("look: UNKNOWN");
        unknownThing("look", (y, t) -> y.look(t, 0, 0));
        sentence("look: OUTSIDE: the MINUTE is none gone by");
        outside("look, minute", 0, 3, (y, m) -> y.look(2, m, 0));
        sentence("look: OUTSIDE: .. gold not 0, 1");
        outside("look, gold", 0, 1, (y, gold) -> y.look(2, 0, gold));
        sentence("look: FULL");
        Runs.refused(CHECK, "look", ForetoldEdgesTest::fullSeen, y -> y.look(2, 0, 0), FULL);
        sentence("look: UNKNOWN; OUTSIDE; FULL: the first of these that fits");
        refused("unknown", y -> y.look(6, 9, 9), UNKNOWN);
        Runs.refused(CHECK, "unknown", ForetoldEdgesTest::fullSeen, y -> y.look(6, 0, 0), UNKNOWN);
        Runs.refused(CHECK, "minute", ForetoldEdgesTest::fullSeen, y -> y.look(2, 4, 0), OUTSIDE);
        Runs.refused(CHECK, "gold", ForetoldEdgesTest::fullSeen, y -> y.look(2, 0, 2), OUTSIDE);
        sentence("forget: Nothing is SEEN: how many there were");
        x = fullSeen();
        due("forget", x.forget(), 6);
        due("none", x.count(10), 0);
        due("fit is as without", x.fit(4), (1 << 24) + 15);
        due("again", x.forget(), 0);
        due("anew", x.look(0, 0, 0), 1);
    }

    /** Hot in 0, clean in 1, cold in 2 .. 5, hot in 6, 7; noon is 4. */
    private static GoldTouch watched(int... seen) {
        GoldTouch x = Runs.told("dead 1 0 0;dead 1 0 0;wash 1;chill 4;noon 4");
        x.bathe();
        Runs.idle(x, 7);
        for (int i = 0; i + 1 < seen.length; i += 2) x.look(0, seen[i], seen[i + 1]);
        return x;
    }

    private static void fit() {
        int none = 1 << 24;
        sentence("FIT of a THING: the MINUTES gone by (by bits)");
        due("none gone by", Runs.told("dead 1 0 0").fit(0), none);
        due("one", Runs.idle(Runs.told("dead 1 0 0"), 1).fit(0), none + 1);
        due("all", Runs.idle(Runs.told("dead 1 0 0"), 24).fit(0), 2 * none - 1);
        due("nothing seen", watched().fit(0), none + 255);
        sentence("TOUCHED in that one alone by the HAND as it was: HOT, for ever");
        due("gold in 7", watched(7, 1).fit(0), 1 + 16 + 32 + 64 + 128);
        due("not gold in 7", watched(7, 0).fit(0), none + 2 + 4 + 8);
        sentence("by the HAND as it was: CLEAN, not at all");
        due("gold in 1", watched(1, 1).fit(0), 1);
        due("not gold in 1", watched(1, 0).fit(0), none + 254);
        sentence("by the HAND as it was: COLD, till NOON, if the MINUTE is ahead of NOON, else for ever");
        due("gold in 3", watched(3, 1).fit(0), 1 + 4 + 8);
        due("gold in 3, not in 4", watched(3, 1, 4, 0).fit(0), 4 + 8);
        due("gold in 3 and 4", watched(3, 1, 4, 1).fit(0), 1);
        due("gold in 4", watched(4, 1).fit(0), 1 + 16);
        due("gold in 5", watched(5, 1).fit(0), 1 + 16 + 32);
        sentence("SEEN .. in a MINUTE gone by (behind its DEED)");
        due("gold in 2", watched(2, 1).fit(0), 1 + 4);
        due("not gold in 2", watched(2, 0).fit(0), none + 2 + 8 + 16 + 32 + 64 + 128);
        due("gold in 0", watched(0, 1).fit(0), 1);
        sentence("it would be in all MINUTES as was SEEN of it");
        due("not in 2, but in 3", watched(2, 0, 3, 1).fit(0), 8);
        due("both ways", watched(3, 0, 3, 1).fit(0), 0);
        due("six", watched(0, 0, 1, 0, 2, 0, 3, 0, 4, 0, 5, 1).fit(0), 32);
        due("of another thing nothing was seen", watched(3, 1).fit(1), none + 255);
        GoldTouch other = watched(3, 1);
        other.look(1, 7, 0);
        due("what was seen of the other one", other.fit(1), none + 2 + 4 + 8);
        due("is not of this one", other.fit(0), 1 + 4 + 8);
        sentence("bit 24: TOUCHED in none");
        due("never gold", watched(0, 0, 3, 0, 7, 0).fit(0), none + 2);
        due("gold once", watched(7, 1).fit(0) >> 24, 0);
        sentence("the MINUTE of a bath, by the HAND ahead of it");
        GoldTouch x = Runs.told("dead 1 0 0;wash 2");
        x.bathe();
        x.bathe();
        x.look(0, 1, 1);
        due("hot in 0, clean in 1", x.fit(0), 1);
        sentence("what he did in truth is no matter");
        x = Runs.told("dead 1 0 0");
        x.touch(0);
        x.look(0, 0, 0);
        due("seen otherwise", x.fit(0), none);
        sentence("MINUTE 23, and NOON 24");
        x = Runs.told("dead 1 0 0;wash 0;chill 1;noon 24");
        Runs.idle(x, 22);
        x.bathe();
        x.idle();
        x.look(0, 23, 1);
        x.look(0, 22, 0);
        due("cold in 23", x.fit(0), 1 << 23);
    }

    private static void fitCall() {
        sentence("fit: UNKNOWN");
        unknownThing("fit", GoldTouch::fit);
    }

    // ---- promises 31 to 33

    private static void bathsDue(GoldTouch x, int told, int many, int set) {
        due("baths " + told + ", how many", x.baths(told, 0), many);
        due("baths " + told + ", the set", x.baths(told, 1), set);
    }

    private static void bathSets() {
        sentence("BATHS for told ones of the 12 MINUTES from this one on (by bits, the lowest this one)");
        GoldTouch x = Runs.told("wash 3");
        bathsDue(x, 0, 0, 0);
        bathsDue(x, 1, NONE, NONE);
        bathsDue(x, 2, 1, 1);
        bathsDue(x, 14, 1, 1);
        bathsDue(x, 2048, 1, 256);
        bathsDue(x, 4095, NONE, NONE);
        bathsDue(x, 4094, NONE, NONE);
        sentence("none of them told");
        bathsDue(x, 30, NONE, NONE);
        bathsDue(x, 28, 1, 2);
        bathsDue(Runs.told("wash 1"), 6, NONE, NONE);
        bathsDue(Runs.told("wash 1"), 10, 2, 5);
        sentence("his HAND is CLEAN in all told ones (just WASH behind the bath)");
        bathsDue(x, 8 + 2, 1, 1);
        bathsDue(x, 16 + 2, 2, 1 + 4);
        bathsDue(Runs.told("wash 4"), 2 + 16, 1, 1);
        bathsDue(Runs.told("wash 4"), 2 + 32, 2, 1 + 4);
        bathsDue(Runs.told("wash 1"), 2048, 1, 1024);
        bathsDue(Runs.told("wash 0;chill 4"), 2, NONE, NONE);
        bathsDue(Runs.told("wash 0;chill 4"), 0, 0, 0);
        sentence("the one of fewest");
        bathsDue(x, 16 + 64, 1, 8);
        bathsDue(x, 16 + 256, 2, 2 + 32);
        bathsDue(Runs.told("wash 1"), 0b101010101010, 6, 0b010101010101);
        sentence("of several the least");
        bathsDue(x, 32, 1, 4);
        bathsDue(x, 512, 1, 64);
        bathsDue(x, 32 + 512, 2, 4 + 64);
    }

    private static void bathMinutes() {
        sentence("BATHED in just them from now on (what he BATHED ahead of now stays)");
        GoldTouch x = Runs.told("wash 3");
        x.bathe();
        bathsDue(x, 1, 0, 0);
        bathsDue(x, 7, 0, 0);
        bathsDue(x, 15, NONE, NONE);
        bathsDue(x, 8, 1, 1);
        x.idle();
        bathsDue(x, 3, 0, 0);
        bathsDue(x, 7, NONE, NONE);
        sentence("(MINUTES above 23, too.)");
        x = Runs.idle(Runs.told("wash 4"), 23);
        bathsDue(x, 2048, 1, 128);
        x.bathe();
        bathsDue(x, 15, 0, 0);
        bathsDue(x, 16, 1, 1);
        bathsDue(x, 31, NONE, NONE);
        bathsDue(x, 2048, 1, 128);
        bathsDue(Runs.idle(new GoldTouch(), 24), 2, 1, 1);
    }

    private static void bathsCall() {
        sentence("baths: OUTSIDE: the set (0 .. 4095)");
        outside("baths, set", 0, 4095, (x, set) -> x.baths(set, 0));
        sentence("baths: OUTSIDE: .. what");
        outside("baths, what", 0, 1, (x, what) -> x.baths(0, what));
    }

    private static void slipsDue(int q, int n, int k, int above, int below) {
        GoldTouch x = new GoldTouch();
        due("slips " + q + " " + n + " " + k + ", above", x.slips(q, n, k, 0), above);
        due("slips " + q + " " + n + " " + k + ", below", x.slips(q, n, k, 1), below);
    }

    private static void slips() {
        sentence("each of n (0 .. 6) times a TOOL slips by q (0 .. 10) of ten");
        slipsDue(5, 6, 3, 21, 32);
        slipsDue(1, 6, 5, 999999, 1000000);
        slipsDue(9, 6, 0, 1, 1000000);
        slipsDue(3, 4, 2, 9163, 10000);
        slipsDue(4, 1, 0, 3, 5);
        sentence("n 0: none can");
        for (int q = 0; q <= 10; q++) {
            slipsDue(q, 0, 0, 1, 1);
            slipsDue(q, 0, 6, 1, 1);
        }
        sentence("q 0: it never does");
        for (int n = 0; n <= 6; n++) slipsDue(0, n, 0, 1, 1);
        sentence("q 10: it always does");
        for (int n = 1; n <= 6; n++) {
            slipsDue(10, n, n - 1, 0, 1);
            slipsDue(10, n, n, 1, 1);
        }
        sentence("the odds that no more than k (0 .. 6) do");
        slipsDue(5, 2, 0, 1, 4);
        slipsDue(5, 2, 1, 3, 4);
        slipsDue(5, 2, 2, 1, 1);
        slipsDue(5, 2, 3, 1, 1);
        for (int q = 0; q <= 10; q++) slipsDue(q, 6, 6, 1, 1);
        sentence("Parts are told in lowest terms: above (part 0), below (1)");
        slipsDue(2, 3, 1, 112, 125);
        slipsDue(2, 2, 0, 16, 25);
        slipsDue(8, 2, 1, 9, 25);
    }

    private static void slipsCall() {
        sentence("slips: OUTSIDE (q)");
        outside("slips, q", 0, 10, (x, q) -> x.slips(q, 1, 1, 0));
        sentence("slips: OUTSIDE (n)");
        outside("slips, n", 0, 6, (x, n) -> x.slips(1, n, 1, 0));
        sentence("slips: OUTSIDE (k)");
        outside("slips, k", 0, 6, (x, k) -> x.slips(1, 1, k, 0));
        sentence("slips: OUTSIDE (part)");
        outside("slips, part", 0, 1, (x, part) -> x.slips(1, 1, 1, part));
    }

    private static void count() {
        sentence("count: 0 THINGS .. 12 letters of THE TEXT");
        int[] rich = {6, 1, 2, 20, 4, 2, 1, 2, 2, 2, 2, 4, 11};
        for (int what = 0; what < rich.length; what++) {
            due("count " + what, Runs.rich().count(what), rich[what]);
        }
        sentence("count: 5 THINGS that are GOLD, by bits (till NOON, for ever)");
        GoldTouch x = Runs.told(Runs.times("dead 1 3 0", 8, ";") + ";wash 0;chill 1;noon 9");
        for (int t = 0; t < 6; t++) x.touch(t);
        x.bathe();
        x.touch(7);
        due("all but one", x.count(5), 255 - 64);
        x.idle();
        due("noon", x.count(5), 63);
        sentence("count: 6 EATEN ones, by bits");
        x = Runs.told(Runs.times("food 1 3 0", 8, ";") + ";wash 4");
        x.bathe();
        x.eat(7, NONE);
        x.eat(2, NONE);
        due("two", x.count(6), 132);
        sentence("count: 7 BROKEN FLOORS, by bits");
        x = Runs.told("dead 1 0 0;dead 1 0 1;dead 1 0 2;bears 0 0;bears 2 0");
        due("none", x.count(7), 0);
        x.idle();
        due("two", x.count(7), 5);
        sentence("count: OUTSIDE");
        outside("count", 0, 12, GoldTouch::count);
    }
}
