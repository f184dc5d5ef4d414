import java.util.function.ToLongBiFunction;
import java.util.function.ToLongFunction;

/** Terms 2 and promises 6 to 17, sentence by sentence: minutes, the hand, deeds, and what they leave. */
public final class DayEdgesTest {
    private static final int NONE = -1, UNKNOWN = -2, OUTSIDE = -3, NOT = -4, FULL = -5;
    private static final Check CHECK = new Check("DayEdgesTest");

    private static void sentence(String words) {
        CHECK.sentence(words);
    }

    private static void due(String call, long got, long want) {
        CHECK.due(call, got, want);
    }

    private static void refused(String call, ToLongFunction<GoldTouch> done, int want) {
        Runs.refused(CHECK, call, Runs::rich, done, want);
    }

    private static void refusedLate(String call, ToLongFunction<GoldTouch> done, int want) {
        Runs.refused(CHECK, call, Runs::late, done, want);
    }

    private static void unknownThing(String call, ToLongBiFunction<GoldTouch, Integer> done) {
        Runs.unknownThing(CHECK, call, done);
    }

    private static void outside(String call, int least, int most, ToLongBiFunction<GoldTouch, Integer> done) {
        Runs.outside(CHECK, call, least, most, done);
    }

    public static void main(String[] args) {
        minutes();
        handOfOneBath();
        handOfSeveral();
        cleanTouch();
        hotTouch();
        coldTouch();
        othersStay();
        deedByTool();
        deedOfEating();
        eatenCannot();
        brokenCannot();
        load();
        breaking();
        noon();
        price();
        kinds();
        thingCall();
        asCall();
        floorCall();
        handCall();
        touchCall();
        byCall();
        eatCall();
        batheIdle();
        undo();
        undoOfAll();
        keep();
        back();
        CHECK.end();
    }

    // ---- terms

    private static void minutes() {
        sentence("MINUTES are 0 .. 23; behind 23 it is 24");
        GoldTouch x = new GoldTouch();
        due("first", x.count(4), 0);
        Runs.idle(x, 23);
        due("the last", x.count(4), 23);
        due("a deed in it", x.idle(), 24);
        due("behind it", x.count(4), 24);
        sentence("and no DEED can be done");
        GoldTouch y = Runs.idle(Runs.told("tool 1 1 0;food 1 1 0"), 24);
        due("touch", y.touch(0), FULL);
        due("by", y.by(0, 1), FULL);
        due("eat", y.eat(1, NONE), FULL);
        due("eat by a tool", y.eat(1, 0), FULL);
        due("bathe", y.bathe(), FULL);
        due("idle", y.idle(), FULL);
        due("minute", y.count(4), 24);
        due("nothing is gold, eaten", y.count(5) + y.count(6), 0);
        due("not bathed", y.hand(25), 2);
        due("eight can be undone", y.count(11), 8);
        y.undo();
        due("in 23 one can", y.touch(0), 2);
    }

    private static void handOfOneBath() {
        sentence("CLEAN in the WASH ones next behind .., COLD in the CHILL ones next behind those, else HOT");
        for (int wash = 0; wash <= 4; wash++) {
            for (int chill = 0; chill <= 4; chill++) {
                GoldTouch x = Runs.idle(Runs.told("wash " + wash + ";chill " + chill), 5);
                x.bathe();
                for (int m = 0; m <= 15; m++) {
                    int gone = m - 5;
                    int want = gone < 1 ? 2 : gone <= wash ? 0 : gone <= wash + chill ? 1 : 2;
                    due("wash " + wash + ", chill " + chill + ": hand " + m, x.hand(m), want);
                }
            }
        }
        sentence("the latest one ahead of it in which he BATHED (not the one of the bath itself)");
        GoldTouch x = new GoldTouch();
        x.bathe();
        due("in the bath's minute", x.hand(0), 2);
        due("behind it", x.hand(1), 0);
    }

    private static void handOfSeveral() {
        sentence("the latest one ahead of it in which he BATHED");
        GoldTouch x = Runs.told("wash 1;chill 3");
        x.bathe();
        x.idle();
        x.idle();
        x.bathe();
        x.bathe();
        int[] hands = {2, 0, 1, 1, 0, 0, 1, 1, 1, 2};
        for (int m = 0; m < hands.length; m++) {
            due("hand " + m, x.hand(m), hands[m]);
        }
        x = Runs.told("wash 4;chill 4");
        x.bathe();
        Runs.idle(x, 8);
        x.bathe();
        due("cold by the first", x.hand(8), 1);
        due("hot in the second's own", x.hand(9), 2);
        due("clean by the second", x.hand(10), 0);
    }

    private static void cleanTouch() {
        sentence("A THING that is TOUCHED by a CLEAN HAND stays as it is");
        GoldTouch x = Runs.told("dead 3 5 0;dead 4 6 0;dead 2 1 0;wash 1;chill 1;noon 20");
        x.touch(1);
        x.bathe();
        due("not gold", x.touch(0), 0);
        due("till noon, by a cold one", x.touch(2), 1);
        x.bathe();
        due("till noon stays", x.touch(2), 1);
        due("1", x.thing(2, 4), 1);
        x.bathe();
        due("for ever stays", x.touch(1), 2);
        due("not gold, still", x.thing(0, 4), 0);
        due("its price is its worth", x.thing(0, 6), 5);
    }

    private static void hotTouch() {
        sentence("by a HOT one it is GOLD for ever");
        GoldTouch x = Runs.told("dead 3 5 0;dead 3 5 0;wash 0;chill 1;noon 5");
        due("touch", x.touch(0), 2);
        x.bathe();
        due("till noon", x.touch(1), 1);
        due("and then for ever", x.touch(1), 2);
        x.idle();
        due("noon", x.count(4), 5);
        due("both are gold", x.count(5), 3);
        due("for ever", x.thing(1, 4), 2);
        Runs.idle(x, 19);
        due("at the day's end", x.count(5), 3);
    }

    private static void coldTouch() {
        sentence("by a COLD one GOLD till NOON, if this MINUTE is ahead of NOON");
        GoldTouch x = Runs.told("dead 3 5 0;dead 3 5 0;dead 3 5 0;wash 0;chill 4;noon 3");
        x.bathe();
        due("two ahead", x.touch(0), 1);
        due("told so", x.thing(0, 4), 1);
        due("one ahead", x.touch(1), 1);
        due("noon: gold no more", x.count(5), 0);
        sentence("else for ever");
        due("at noon", x.touch(2), 2);
        due("told so", x.thing(2, 4), 2);
        due("behind noon", x.touch(0), 2);
        sentence("GOLD till NOON: a NOON of 0 is never ahead, one of 24 always");
        x = Runs.told("dead 3 5 0;wash 0;chill 1;noon 0");
        x.bathe();
        due("noon 0", x.touch(0), 2);
        x = Runs.told("dead 3 5 0;dead 3 5 0;wash 0;chill 2;noon 24");
        Runs.idle(x, 21);
        x.bathe();
        due("noon 24, minute 22", x.touch(0), 1);
        due("told so", x.count(5), 1);
        due("minute 23", x.touch(1), 1);
        due("24: gold no more", x.count(5), 0);
        due("the day is over", x.count(4), 24);
        sentence("(what is GOLD for ever stays so)");
        x = Runs.told("dead 3 5 0;wash 0;chill 1;noon 5");
        x.touch(0);
        x.bathe();
        due("by a cold hand", x.touch(0), 2);
        Runs.idle(x, 4);
        due("behind noon", x.thing(0, 4), 2);
        sentence("(what is GOLD till NOON and touched by a COLD one again)");
        x = Runs.told("dead 3 5 0;wash 0;chill 4;noon 4");
        x.bathe();
        x.touch(0);
        due("again", x.touch(0), 1);
        x.idle();
        due("noon", x.thing(0, 4), 0);
    }

    private static void othersStay() {
        sentence("A THING that is TOUCHED .. (each other one stays as it is)");
        String text = Runs.times("dead 1 5 0", 8, ";") + ";wash 0;chill 4;noon 7";
        for (int cold = 0; cold < 8; cold++) {
            for (int hot = 0; hot < 8; hot++) {
                GoldTouch x = Runs.told(text);
                x.bathe();
                x.touch(cold);
                Runs.idle(x, 3);
                x.touch(hot);
                due("till noon " + cold + ", then for ever " + hot, x.count(5), 1 << cold | 1 << hot);
                due("the first", x.thing(cold, 4), cold == hot ? 2 : 1);
                due("the second", x.thing(hot, 4), 2);
                x.idle();
                due("noon", x.count(5), 1 << hot);
            }
        }
    }

    private static void deedByTool() {
        sentence("he HANDLES a THING BY another one, a TOOL on its FLOOR (the TOOL is TOUCHED, the THING is not)");
        GoldTouch x = Runs.told("tool 2 0 1;being 3 0 1;tool 2 0 1;wash 1;chill 1;noon 20");
        due("hot", x.by(0, 1), 2);
        due("the tool alone", x.count(5), 1);
        x.bathe();
        due("clean", x.by(2, 1), 0);
        due("nothing more", x.count(5), 1);
        due("cold", x.by(2, 0), 1);
        due("a tool can be handled, too", x.thing(0, 4), 2);
        due("till noon", x.thing(2, 4), 1);
        due("a minute each", x.count(4), 4);
    }

    private static void deedOfEating() {
        sentence("he EATS a FOOD, by his HAND (it is TOUCHED first)");
        GoldTouch x = Runs.told("food 2 0 0;food 3 0 0;food 4 0 0;tool 1 0 0;wash 1;chill 1;noon 20");
        due("hot", x.eat(0, NONE), 0);
        due("for ever", x.thing(0, 4), 2);
        x.bathe();
        due("clean", x.eat(1, NONE), 1);
        due("eaten", x.thing(1, 5), 1);
        due("cold", x.eat(2, NONE), 0);
        due("till noon", x.thing(2, 4), 1);
        sentence("if the FOOD is not GOLD then, it is EATEN");
        x.bathe();
        due("clean, but gold till noon", x.eat(2, NONE), 0);
        x.bathe();
        due("clean, but gold for ever", x.eat(0, NONE), 0);
        due("eaten is one alone", x.count(6), 2);
        sentence("or BY a TOOL on its FLOOR (that is TOUCHED)");
        x = Runs.told("food 2 0 0;food 3 0 0;tool 1 0 0;wash 0;chill 1;noon 4");
        x.bathe();
        due("cold", x.eat(0, 2), 1);
        due("the tool", x.thing(2, 4), 1);
        due("the food is not gold", x.thing(0, 4), 0);
        due("gold by hand", x.eat(1, NONE), 0);
        due("gold, by a tool", x.eat(1, 2), 0);
        due("it was touched all the same", x.thing(2, 4), 2);
        sentence("what was GOLD till NOON can be EATEN behind NOON");
        x = Runs.told("food 2 0 0;wash 0;chill 1;noon 2;tool 1 0 0");
        x.bathe();
        due("till noon", x.eat(0, NONE), 0);
        due("then", x.eat(0, 1), 1);
    }

    private static void eatenCannot() {
        GoldTouch x = Runs.told("food 2 9 0;tool 1 0 0;wash 1");
        x.bathe();
        x.eat(0, NONE);
        sentence("What is EATEN .. cannot be TOUCHED");
        due("touch", x.touch(0), NOT);
        sentence("What is EATEN .. cannot be .. HANDLED");
        due("by", x.by(1, 0), NOT);
        sentence("What is EATEN .. cannot be .. EATEN");
        due("by hand", x.eat(0, NONE), NOT);
        due("by a tool", x.eat(0, 1), NOT);
        sentence("What is EATEN .. : its FLOOR's other THINGS can be");
        due("touch", x.touch(1) >= 0 ? 1 : 0, 1);
        due("minutes", x.count(4), 3);
    }

    private static GoldTouch brokenFloor() {
        GoldTouch x = Runs.told("food 9 9 1;tool 1 0 1;being 1 3 1;food 2 2 0;tool 3 3 0;bears 1 10;wash 4");
        x.bathe();
        return x;
    }

    private static void brokenCannot() {
        sentence("What is .. on a BROKEN FLOOR, cannot be TOUCHED");
        GoldTouch x = brokenFloor();
        due("broken", x.floor(1, 2), 1);
        for (int t = 0; t < 3; t++) {
            due("touch " + t, x.touch(t), NOT);
        }
        sentence("What is .. on a BROKEN FLOOR, cannot be .. HANDLED, .. be such a TOOL");
        due("by", x.by(1, 2), NOT);
        due("by, food", x.by(1, 0), NOT);
        sentence("What is .. on a BROKEN FLOOR, cannot be .. EATEN");
        due("by hand", x.eat(0, NONE), NOT);
        due("by a tool", x.eat(0, 1), NOT);
        sentence("What is .. on a BROKEN FLOOR: other FLOORS are as they were");
        due("minute", x.count(4), 1);
        due("by", x.by(4, 3), 0);
        due("eat", x.eat(3, 4), 1);
    }

    private static void load() {
        sentence("LOAD of a FLOOR is what all on it weighs that is not EATEN");
        GoldTouch x = Runs.told("food 9 0 1;dead 4 0 1;tool 2 0 1;dead 5 0 0;wash 1;chill 2;noon 6");
        due("all", x.floor(1, 1), 15);
        due("another floor", x.floor(0, 1), 5);
        due("an empty one", x.floor(2, 1), 0);
        x.bathe();
        x.eat(0, NONE);
        due("eaten", x.floor(1, 1), 6);
        sentence("its WEIGHT, 3 times that, if it is GOLD");
        x.touch(1);
        due("till noon", x.floor(1, 1), 14);
        Runs.idle(x, 2);
        x.touch(2);
        due("for ever, and the other one no more", x.floor(1, 1), 10);
        due("minute", x.count(4), 6);
    }

    private static void breaking() {
        sentence("a FLOOR with more LOAD than it BEARS is BROKEN");
        GoldTouch x = Runs.told("dead 5 0 0;dead 5 0 1;bears 0 15;bears 1 14");
        x.touch(0);
        due("just what it bears", x.floor(0, 2), 0);
        x.touch(1);
        due("one more", x.floor(1, 2), 1);
        due("by bits", x.count(7), 2);
        x = Runs.told("dead 1 0 1;bears 0 0;bears 1 0;bears 2 0");
        x.idle();
        due("nothing on a floor that bears nothing", x.count(7), 2);
        sentence("Behind the DEED: (each DEED, a rest and a bath, too)");
        x = Runs.told("dead 5 0 2;bears 2 4");
        x.bathe();
        due("bathe", x.count(7), 4);
        x.undo();
        x.idle();
        due("idle", x.count(7), 4);
        x = Runs.told("tool 1 0 0;food 5 0 0;bears 0 5");
        due("too much ahead of it", x.floor(0, 1), 6);
        due("eaten", x.eat(1, 0), 1);
        due("behind it: 3 is not", x.count(7), 0);
        sentence("is BROKEN from then on");
        x = Runs.told("dead 5 7 0;bears 0 14;wash 0;chill 1;noon 3");
        x.bathe();
        x.touch(0);
        due("broken", x.floor(0, 2), 1);
        x.idle();
        due("noon: its load is less again", x.floor(0, 1), 5);
        due("broken all the same", x.floor(0, 2), 1);
        due("price", x.thing(0, 6), 0);
        sentence("Then the next MINUTE comes (the FLOOR breaks ahead of NOON's coming)");
        x = Runs.told("dead 5 7 0;bears 0 14;wash 0;chill 1;noon 2");
        x.bathe();
        x.touch(0);
        due("noon", x.thing(0, 4), 0);
        due("broken", x.floor(0, 2), 1);
    }

    private static void noon() {
        sentence("if that is NOON, what is GOLD till NOON is GOLD no more");
        GoldTouch x = Runs.told("dead 5 7 0;dead 2 1 1;dead 3 3 2;wash 0;chill 2;noon 5");
        x.touch(1);
        x.bathe();
        x.touch(0);
        x.touch(2);
        due("gold", x.count(5), 7);
        due("minute", x.count(4), 4);
        x.idle();
        due("for ever is left", x.count(5), 2);
        due("its weight is back", x.floor(0, 1), 5);
        due("its price is back", x.thing(0, 6), 7);
        sentence("if that is NOON, .. on a BROKEN FLOOR, too");
        x = Runs.told("dead 5 7 0;bears 0 14;wash 0;chill 2;noon 5");
        x.bathe();
        x.touch(0);
        due("gold", x.count(5), 1);
        Runs.idle(x, 3);
        due("no more", x.count(5), 0);
    }

    private static void price() {
        sentence("PRICE of a THING is nothing, if it is EATEN");
        GoldTouch x = Runs.told("food 2 9 0;dead 4 40 0;dead 7 3 1;bears 1 20;wash 1;chill 1;noon 4");
        x.bathe();
        x.eat(0, NONE);
        due("eaten", x.thing(0, 6), 0);
        sentence("3 times its WEIGHT, if it is GOLD");
        x.touch(1);
        due("till noon", x.thing(1, 6), 12);
        x.touch(2);
        sentence("nothing, if it is .. on a BROKEN FLOOR");
        due("gold", x.thing(2, 4), 2);
        due("broken", x.thing(2, 6), 0);
        sentence("else its WORTH");
        due("behind noon", x.thing(1, 6), 40);
        x.touch(1);
        due("for ever", x.thing(1, 6), 12);
    }

    private static void kinds() {
        sentence("THING (0); DEAD (1) under it; TOOL (2) is DEAD; GATE (3) is DEAD; BEING (4) is a THING; FOOD (5) is DEAD");
        int[][] is = {{0, 1}, {0, 1, 2}, {0, 1, 3}, {0, 4}, {0, 1, 5}};
        for (int k = 0; k < 5; k++) {
            for (int as = 0; as <= 5; as++) {
                boolean fits = false;
                for (int one : is[k]) fits |= one == as;
                due(Runs.KINDS[k] + " as " + as, Runs.told(Runs.KINDS[k] + " 7 0 0").as(0, as), fits ? 7 : NOT);
            }
        }
    }

    // ---- promises 6 to 9

    private static void thingCall() {
        sentence("thing: KIND (what 0), WEIGHT (1), WORTH (2), FLOOR (3), 0 it is not GOLD, 1 till NOON, 2 for ever (4), "
            + "1 it is EATEN, 0 (5), PRICE (6)");
        GoldTouch x = Runs.rich();
        int[][] want = {{4, 4, 5, 0, 0, 1, 0}, {0, 5, 1, 1, 1, 0, 0}, {4, 3, 9, 0, 0, 0, 9}};
        for (int t = 0; t < want.length; t++) {
            for (int what = 0; what < 7; what++) {
                due("thing " + t + " " + what, x.thing(t, what), want[t][what]);
            }
        }
        sentence("thing: UNKNOWN");
        unknownThing("thing", (y, t) -> y.thing(t, 0));
        sentence("thing: OUTSIDE");
        outside("thing, what", 0, 6, (y, what) -> y.thing(0, what));
        sentence("thing: UNKNOWN; OUTSIDE: the first of these that fits");
        refused("thing 6 7", y -> y.thing(6, 7), UNKNOWN);
        sentence("thing: nothing changes");
        Runs.changesNothing(CHECK, "thing", Runs::rich, y -> y.thing(1, 4));
    }

    private static void asCall() {
        sentence("as: A THING taken as a KIND (0 .. 5 ..): what it weighs now (EATEN: 0)");
        GoldTouch x = Runs.rich();
        due("as it is", x.as(2, 5), 3);
        due("gold", x.as(1, 0), 15);
        due("eaten", x.as(0, 0), 0);
        due("eaten, as food", x.as(0, 5), 0);
        sentence("as: UNKNOWN");
        unknownThing("as", (y, t) -> y.as(t, 0));
        sentence("as: OUTSIDE");
        outside("as, kind", 0, 5, (y, kind) -> y.as(0, kind));
        sentence("as: NOT: it is none such");
        refused("a being as dead", y -> y.as(4, 1), NOT);
        refused("a tool as food", y -> y.as(3, 5), NOT);
        refused("what is eaten as a being", y -> y.as(0, 4), NOT);
        sentence("as: UNKNOWN; OUTSIDE; NOT: the first of these that fits");
        refused("as 6 6", y -> y.as(6, 6), UNKNOWN);
        refused("as -1 -1", y -> y.as(-1, -1), UNKNOWN);
    }

    private static void floorCall() {
        sentence("floor: what it BEARS (what 0), LOAD (1), 1 it is BROKEN, 0 (2), THE TOOL (3; NONE)");
        GoldTouch x = Runs.rich();
        int[][] want = {{99, 9, 0, 3}, {12, 15, 1, NONE}, {99, 2, 0, NONE}};
        for (int f = 0; f < 3; f++) {
            for (int what = 0; what < 4; what++) {
                due("floor " + f + " " + what, x.floor(f, what), want[f][what]);
            }
        }
        sentence("floor: UNKNOWN");
        for (int f : new int[] {-1, 3}) {
            refused("floor " + f, y -> y.floor(f, 0), UNKNOWN);
        }
        for (int f : Runs.WILD) {
            refused("floor " + f, y -> y.floor(f, 0), UNKNOWN);
        }
        sentence("floor: OUTSIDE");
        outside("floor, what", 0, 3, (y, what) -> y.floor(0, what));
        sentence("floor: UNKNOWN; OUTSIDE: the first of these that fits");
        refused("floor 3 4", y -> y.floor(3, 4), UNKNOWN);
    }

    private static void handCall() {
        sentence("hand: HAND in a MINUTE (0 .. 99; as he BATHED up to now): 0 CLEAN, 1 COLD, 2 HOT");
        GoldTouch x = Runs.idle(Runs.told("wash 4;chill 4"), 23);
        due("not bathed yet", x.hand(24), 2);
        x.bathe();
        int[] hands = {2, 0, 0, 0, 0, 1, 1, 1, 1, 2};
        for (int i = 0; i < hands.length; i++) {
            due("hand " + (23 + i), x.hand(23 + i), hands[i]);
        }
        due("least", x.hand(0), 2);
        due("most", x.hand(99), 2);
        x.undo();
        due("undone", x.hand(24), 2);
        sentence("hand: HAND in a MINUTE (.. 99 ..): no bath comes round again 32 or 64 MINUTES behind it");
        for (int bath = 0; bath < 24; bath++) {
            x = Runs.idle(Runs.told("wash 4;chill 4"), bath);
            x.bathe();
            for (int m = bath + 9; m <= 99; m++) {
                due("bathed in " + bath + ", hand " + m, x.hand(m), 2);
            }
        }
        sentence("hand: OUTSIDE");
        outside("hand", 0, 99, GoldTouch::hand);
    }

    // ---- promises 10 to 14

    private static void touchCall() {
        sentence("touch: 0 it is not GOLD then (behind this DEED), 1 till NOON, 2 for ever");
        GoldTouch x = Runs.told("dead 1 1 0;wash 1;chill 1;noon 3");
        x.bathe();
        due("clean", x.touch(0), 0);
        due("cold, the next minute being noon", x.touch(0), 1);
        due("hot", x.touch(0), 2);
        sentence("touch: UNKNOWN");
        unknownThing("touch", GoldTouch::touch);
        sentence("touch: NOT: it is EATEN");
        refused("touch 0", y -> y.touch(0), NOT);
        sentence("touch: NOT: .. on a BROKEN FLOOR");
        refused("touch 1", y -> y.touch(1), NOT);
        sentence("touch: FULL: it is MINUTE 24");
        refusedLate("touch 2", y -> y.touch(2), FULL);
        sentence("touch: UNKNOWN; NOT; FULL: the first of these that fits");
        refusedLate("touch 6", y -> y.touch(6), UNKNOWN);
        refusedLate("touch 0", y -> y.touch(0), NOT);
        refusedLate("touch 1", y -> y.touch(1), NOT);
    }

    private static void byCall() {
        sentence("by: what touch() would tell of the TOOL");
        GoldTouch x = Runs.told("dead 1 1 0;tool 1 1 0;wash 1;chill 1;noon 3");
        x.bathe();
        due("clean", x.by(1, 0), 0);
        due("cold, the next minute being noon", x.by(1, 0), 1);
        due("noon", x.count(5), 0);
        due("hot", x.by(1, 0), 2);
        due("the tool alone", x.count(5), 2);
        sentence("by: UNKNOWN");
        unknownThing("by, tool", (y, t) -> y.by(t, 2));
        unknownThing("by, thing", (y, t) -> y.by(3, t));
        sentence("by: UNKNOWN (one and itself, too)");
        refused("by 3 3", y -> y.by(3, 3), UNKNOWN);
        refused("by 0 0", y -> y.by(0, 0), UNKNOWN);
        refused("by 1 1", y -> y.by(1, 1), UNKNOWN);
        refused("by -1 -1", y -> y.by(-1, -1), UNKNOWN);
        sentence("by: NOT: it is no TOOL");
        refused("by a food", y -> y.by(2, 3), NOT);
        refused("by a gate", y -> y.by(5, 3), NOT);
        sentence("by: NOT: .. not on its FLOOR");
        refused("by 3 4", y -> y.by(3, 4), NOT);
        sentence("by: NOT: .. one of both is EATEN");
        refused("by 3 0", y -> y.by(3, 0), NOT);
        refused("by 0 3", y -> y.by(0, 3), NOT);
        sentence("by: NOT: .. on a BROKEN FLOOR");
        refused("by 3 1", y -> y.by(3, 1), NOT);
        Runs.refused(CHECK, "both on it", DayEdgesTest::brokenFloor, y -> y.by(1, 2), NOT);
        sentence("by: FULL: it is MINUTE 24");
        refusedLate("by 3 2", y -> y.by(3, 2), FULL);
        sentence("by: UNKNOWN; NOT; FULL: the first of these that fits");
        refusedLate("by 3 3", y -> y.by(3, 3), UNKNOWN);
        refusedLate("by 3 6", y -> y.by(3, 6), UNKNOWN);
        refusedLate("by 3 0", y -> y.by(3, 0), NOT);
        refusedLate("by 3 4", y -> y.by(3, 4), NOT);
        refusedLate("by 2 3", y -> y.by(2, 3), NOT);
        refused("no tool, and unknown", y -> y.by(2, 6), UNKNOWN);
    }

    private static void eatCall() {
        sentence("eat: 1 it is EATEN, 0 it is GOLD");
        GoldTouch x = Runs.told("food 1 1 0;food 1 1 0;tool 1 1 0");
        due("gold", x.eat(0, NONE), 0);
        due("eaten", x.eat(1, 2), 1);
        due("a minute each", x.count(4), 2);
        sentence("eat: UNKNOWN");
        unknownThing("eat", (y, t) -> y.eat(t, NONE));
        unknownThing("eat, by a tool", (y, t) -> y.eat(t, 3));
        for (int t : new int[] {-2, -3, 6, 7, 8, Integer.MIN_VALUE, Integer.MAX_VALUE}) {
            refused("eat, tool " + t, y -> y.eat(2, t), UNKNOWN);
        }
        sentence("eat: UNKNOWN (one and itself, too)");
        refused("eat 2 2", y -> y.eat(2, 2), UNKNOWN);
        refused("eat 3 3", y -> y.eat(3, 3), UNKNOWN);
        refused("eat -1 -1", y -> y.eat(NONE, NONE), UNKNOWN);
        sentence("eat: NOT: it is no FOOD");
        refused("a tool", y -> y.eat(3, NONE), NOT);
        refused("a being", y -> y.eat(4, NONE), NOT);
        refused("a gate by a tool", y -> y.eat(5, 3), NOT);
        sentence("eat: NOT: .. as in touch()");
        refused("eaten", y -> y.eat(0, NONE), NOT);
        Runs.refused(CHECK, "on a broken floor", DayEdgesTest::brokenFloor, y -> y.eat(0, NONE), NOT);
        sentence("eat: NOT: .. as in .. by()");
        refused("by a gate", y -> y.eat(2, 5), NOT);
        refused("by what is eaten", y -> y.eat(2, 0), NOT);
        refused("eaten, by a tool", y -> y.eat(0, 3), NOT);
        Runs.refused(CHECK, "both on a broken floor", DayEdgesTest::brokenFloor, y -> y.eat(0, 1), NOT);
        Runs.refused(CHECK, "a tool on another floor", DayEdgesTest::brokenFloor, y -> y.eat(3, 1), NOT);
        Runs.refused(CHECK, "a tool on another, whole floor", () -> Runs.told("food 1 1 0;tool 1 1 1"), y -> y.eat(0, 1), NOT);
        sentence("eat: FULL: it is MINUTE 24");
        refusedLate("by hand", y -> y.eat(2, NONE), FULL);
        refusedLate("by a tool", y -> y.eat(2, 3), FULL);
        sentence("eat: UNKNOWN; NOT; FULL: the first of these that fits");
        refusedLate("eat 6", y -> y.eat(6, NONE), UNKNOWN);
        refusedLate("eat 2 6", y -> y.eat(2, 6), UNKNOWN);
        refusedLate("no food, an unknown tool", y -> y.eat(4, 6), UNKNOWN);
        refusedLate("eaten", y -> y.eat(0, NONE), NOT);
        refusedLate("no food", y -> y.eat(3, NONE), NOT);
        refusedLate("by a gate", y -> y.eat(2, 5), NOT);
    }

    private static void batheIdle() {
        sentence("bathe: He BATHES: the MINUTE then");
        GoldTouch x = new GoldTouch();
        for (int m = 1; m <= 24; m++) {
            due("bathe", x.bathe(), m);
        }
        sentence("bathe: FULL: it is MINUTE 24");
        due("full", x.bathe(), FULL);
        refusedLate("bathe", GoldTouch::bathe, FULL);
        sentence("idle: He RESTS: the MINUTE then");
        x = new GoldTouch();
        for (int m = 1; m <= 24; m++) {
            due("idle", x.idle(), m);
        }
        due("he has not bathed", x.hand(24), 2);
        sentence("idle: FULL: it is MINUTE 24");
        due("full", x.idle(), FULL);
        refusedLate("idle", GoldTouch::idle, FULL);
    }

    // ---- promises 15 to 17

    private static void undo() {
        sentence("undo: (the last 8 can be): how many can be undone yet");
        GoldTouch x = new GoldTouch();
        for (int i = 1; i <= 12; i++) {
            x.idle();
            due("can be undone", x.count(11), Math.min(i, 8));
        }
        for (int left = 7; left >= 0; left--) {
            due("undo", x.undo(), left);
            due("minute", x.count(4), 4 + left);
        }
        sentence("undo: NOT: none");
        due("undo", x.undo(), NOT);
        due("minute", x.count(4), 4);
        Runs.refused(CHECK, "undo", () -> Runs.told("dead 1 1 1"), GoldTouch::undo, NOT);
        sentence("undo: a DEED behind what was undone can be undone, the undone one is gone");
        x = new GoldTouch();
        Runs.idle(x, 9);
        x.undo();
        x.undo();
        due("six are left", x.count(11), 6);
        x.bathe();
        due("seven", x.count(11), 7);
        x.idle();
        x.idle();
        due("eight at most", x.count(11), 8);
        x.undo();
        x.undo();
        due("the bath is not", x.hand(8), 0);
        due("now it is", x.undo(), 5);
        due("hot", x.hand(8), 2);
        due("minute", x.count(4), 7);
    }

    /** The first ones of: a bath, a meal, a touch till noon, one that breaks a floor, one for ever, a bath, two rests. */
    private static GoldTouch eightDeeds(int many) {
        GoldTouch x = Runs.told("food 2 5 0;dead 3 1 1;tool 1 1 0;bears 1 8;wash 1;chill 2;noon 3");
        for (int i = 0; i < many; i++) {
            switch (i) {
                case 1: x.eat(0, NONE); break;
                case 2: x.touch(2); break;
                case 3: x.touch(1); break;
                case 4: x.touch(2); break;
                case 0: case 5: x.bathe(); break;
                default: x.idle();
            }
        }
        return x;
    }

    private static void undoOfAll() {
        sentence("undo: The latest DEED is undone");
        GoldTouch x = eightDeeds(8);
        due("eaten, broken, gold", x.count(6) * 100 + x.count(7) * 10 + x.count(5), 126);
        for (int deeds = 7; deeds >= 0; deeds--) {
            x = eightDeeds(8);
            for (int left = 7; left >= deeds; left--) due("undo", x.undo(), left);
            due("minute", x.count(4), deeds);
            Runs.same(CHECK, "as ahead of deed " + deeds, Runs.asked(x), Runs.asked(eightDeeds(deeds)));
        }
        sentence("undo: SEEN, TASKS, THE ROW, THE TEXT, what is kept are no DEEDS");
        x = Runs.rich();
        due("undo", x.undo(), 3);
        due("row, tasks, seen, letters", x.count(8) * 10000 + x.count(9) * 1000 + x.count(10) * 100 + x.count(12), 22211);
        due("kept", x.back(0), 3);
    }

    private static void keep() {
        sentence("keep: All as it is by DEEDS is kept (k 0, 1 ..): the MINUTE");
        GoldTouch x = Runs.told("food 2 5 0;dead 3 1 1;tool 1 1 0;bears 1 8;wash 1;chill 2;noon 5");
        due("at once", x.keep(0), 0);
        x.bathe();
        x.eat(0, NONE);
        x.touch(2);
        x.touch(1);
        due("now", x.keep(1), 4);
        Runs.idle(x, 20);
        due("back", x.back(1), 4);
        due("eaten", x.count(6), 1);
        due("broken", x.count(7), 2);
        due("gold", x.count(5), 6);
        due("till noon", x.thing(2, 4), 1);
        due("bathed", x.hand(1), 0);
        due("the other one", x.back(0), 0);
        due("nothing of it", x.count(5) + x.count(6) + x.count(7), 0);
        due("not bathed", x.hand(1), 2);
        Runs.idle(x, 24);
        due("in 24", x.keep(0), 24);
        due("back to 24", x.back(0), 24);
        sentence("keep: a later one is in its place");
        x.back(1);
        x.idle();
        due("anew", x.keep(1), 5);
        due("back", x.back(1), 5);
        due("noon came", x.count(5), 0);
        sentence("keep: (.. not SEEN, TASKS, THE ROW ..)");
        x = Runs.rich();
        x.put(2);
        x.task(3);
        x.look(2, 0, 1);
        due("back", x.back(0), 3);
        due("row, tasks, seen", x.count(8) * 100 + x.count(9) * 10 + x.count(10), 333);
        x.keep(1);
        x.wipe();
        x.drop();
        x.forget();
        x.back(1);
        due("none", x.count(8) * 100 + x.count(9) * 10 + x.count(10), 0);
        sentence("keep: (.. not .. what can be undone)");
        x = Runs.idle(new GoldTouch(), 3);
        x.keep(0);
        due("it can be, yet", x.count(11), 3);
        due("undo", x.undo(), 2);
        due("what is kept stays", x.back(0), 3);
        sentence("keep: UNKNOWN: no such k");
        for (int k : new int[] {-1, 2, 31, 32, 33}) {
            refused("keep " + k, y -> y.keep(k), UNKNOWN);
        }
        for (int k : Runs.WILD) {
            refused("keep " + k, y -> y.keep(k), UNKNOWN);
        }
    }

    private static void back() {
        sentence("back: It is as it was kept, nothing can be undone: the MINUTE");
        GoldTouch x = Runs.rich();
        due("back", x.back(0), 3);
        due("undone", x.count(11), 0);
        due("undo", x.undo(), NOT);
        x.idle();
        due("a deed behind it can be", x.undo(), 0);
        due("again", x.back(0), 3);
        sentence("back: UNKNOWN");
        for (int k : new int[] {-1, 2, 31, 32, 33}) {
            refused("back " + k, y -> y.back(k), UNKNOWN);
        }
        for (int k : Runs.WILD) {
            refused("back " + k, y -> y.back(k), UNKNOWN);
        }
        sentence("back: NOT: nothing was kept");
        refused("the other one", y -> y.back(1), NOT);
        Runs.refused(CHECK, "a new one", GoldTouch::new, y -> y.back(0), NOT);
        sentence("back: NOT: nothing was kept since the last text");
        x = Runs.rich();
        due("a text with a fault is none", x.court(), NOT);
        due("kept", x.back(0), 3);
        Runs.tell(x, "wash 1");
        due("0", x.back(0), NOT);
        x.keep(1);
        due("0, still", x.back(0), NOT);
        due("1", x.back(1), 0);
        sentence("back: UNKNOWN; NOT: the first of these that fits");
        Runs.refused(CHECK, "back 2", GoldTouch::new, y -> y.back(2), UNKNOWN);
    }
}
