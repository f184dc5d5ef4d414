/** Each promise by hand-made runs: ordinary inputs, edges, wrong inputs. */
public final class PromisesTest {
    private static final int NONE = -1, UNKNOWN = -2, OUTSIDE = -3, NOT = -4, FULL = -5;
    private static final Check CHECK = new Check("PromisesTest");

    private static void due(String call, long got, long want) {
        CHECK.due(call, got, want);
    }

    private static void type(GoldTouch x, String text) {
        for (int i = 0; i < text.length(); i++) {
            x.write(text.charAt(i));
        }
    }

    private static GoldTouch told(String text) {
        GoldTouch x = new GoldTouch();
        type(x, text);
        CHECK.holds("no fault in " + text, x.court() > 0);
        return x;
    }

    private static void idle(GoldTouch x, int times) {
        for (int i = 0; i < times; i++) {
            x.idle();
        }
    }

    private static void faultDue(String text, int want) {
        GoldTouch x = new GoldTouch();
        type(x, text);
        due("1, 4: fault of '" + text + "'", x.fault(), want);
        due("5: court of '" + text + "'", x.court() == NOT ? 1 : 0, want == NONE ? 0 : 1);
    }

    public static void main(String[] args) {
        newObject();
        writeErase();
        fault();
        court();
        things();
        floors();
        hand();
        touch();
        by();
        eat();
        batheIdle();
        undo();
        keepBack();
        town();
        rowGoes();
        taskDrop();
        plan();
        prices();
        thief();
        lookForget();
        fit();
        baths();
        slips();
        count();
        CHECK.end();
    }

    private static void newObject() {
        GoldTouch x = new GoldTouch();
        int[] first = {0, 3, 2, 12, 0, 0, 0, 0, 0, 0, 0, 0, 0};
        for (int what = 0; what < first.length; what++) {
            due("1: count " + what, x.count(what), first[what]);
        }
        for (int f = 0; f < 3; f++) {
            due("1: bears " + f, x.floor(f, 0), 99);
            due("1: load " + f, x.floor(f, 1), 0);
        }
        due("1: no thing", x.touch(0), UNKNOWN);
        due("1: nothing kept", x.back(0), NOT);
        due("1: nothing to undo", x.undo(), NOT);
    }

    private static void writeErase() {
        GoldTouch x = new GoldTouch();
        due("2: below", x.write(-1), OUTSIDE);
        due("2: above", x.write(256), OUTSIDE);
        due("2: least", x.write(0), 1);
        due("2: most", x.write(255), 2);
        for (int i = 3; i <= 160; i++) {
            due("2: letter " + i, x.write('a'), i);
        }
        due("2: full", x.write('a'), FULL);
        due("2: outside ahead of full", x.write(256), OUTSIDE);
        due("2: still 160", x.count(12), 160);
        due("3: erase", x.erase(), 160);
        due("3: erase again", x.erase(), 0);
        due("3: empty", x.count(12), 0);
        due("3: room again", x.write('b'), 1);
    }

    private static void fault() {
        faultDue("", 0);
        faultDue("   ", 3);
        faultDue("court", NONE);
        faultDue("bare", NONE);
        faultDue("  court  ", NONE);
        faultDue("wash 4 ;  chill 0;noon 24", NONE);
        faultDue("courts", 0);
        faultDue("cour", 0);
        faultDue("Court", 0);
        faultDue("mourt", 0);
        faultDue("courtz", 0);
        faultDue("acourt", 0);
        faultDue("cou rt", 0);
        faultDue(" ;court", 1);
        faultDue("court;", 6);
        faultDue("court; ", 7);
        faultDue("court;;bare", 6);
        faultDue("court bare", 6);
        faultDue("court 1", 6);
        faultDue("bare, bare", 4);
        faultDue("dead", 4);
        faultDue("dead 1 2 ", 9);
        faultDue("dead 1;", 6);
        faultDue("dead one", 5);
        faultDue("dead 0 0 0", 5);
        faultDue("dead 1 0 0", NONE);
        faultDue("tool 20 40 2", NONE);
        faultDue("tool 21 0 0", 5);
        faultDue("gate 1 41 0", 7);
        faultDue("being 1 1 3", 10);
        faultDue("food 1 1 1 1", 11);
        faultDue("food 01 00 02", NONE);
        faultDue("food 001 0 0", 5);
        faultDue("food -1 0 0", 5);
        faultDue("food 0 0 0", 5);
        faultDue("bears 2 99", NONE);
        faultDue("bears 3 0", 6);
        faultDue("bears 0 100", 8);
        faultDue("bears 0", 7);
        faultDue("wash 5", 5);
        faultDue("chill 5", 6);
        faultDue("noon 25", 5);
        faultDue("noon", 4);
        faultDue("noon\t5", 4);
        faultDue("noon5", NONE);
        faultDue("dead 1 2 0" + (char) 233, 10);
        faultDue("dead1 2 0;bare", NONE);
        faultDue("court;dead 1 2 0;wash 9;nonsense", 22);
        manyThings();
        manyClauses();
    }

    private static void manyThings() {
        String eight = "dead 1 0 0";
        for (int i = 1; i < 8; i++) {
            eight += ";food 1 0 0";
        }
        faultDue(eight, NONE);
        faultDue(eight + "; tool 1 0 0", eight.length() + 2);
        faultDue(eight + ";tool", eight.length() + 1);
        faultDue(eight + ";food 1 0 0", eight.length() + 1);
        faultDue(eight + ";wash 1", NONE);
        faultDue(eight + ";bare;tool 1 0 0", NONE);
        faultDue(eight + ";court;tool 1 0 0", NONE);
        GoldTouch x = told(eight);
        type(x, "wash 1;gate 1 0 0");
        due("4: a ninth behind an earlier text", x.fault(), 7);
        x.erase();
        type(x, "bare;gate 1 0 0");
        due("4: bare first", x.fault(), NONE);
        due("4: again", x.fault(), NONE);
        due("5: what fault() read is not done", x.count(0), 8);
        due("5: two", x.court(), 2);
        due("5: one thing", x.count(0), 1);
        type(x, "gate 1 0 0");
        due("4: one more", x.fault(), NONE);
        due("5: one clause", x.court(), 1);
        due("5: two things", x.count(0), 2);
    }

    private static void manyClauses() {
        String fourteen = "bare";
        for (int i = 1; i < 14; i++) {
            fourteen += ";bare";
        }
        faultDue(fourteen, NONE);
        faultDue(fourteen + " ;bare", fourteen.length() + 1);
        faultDue(fourteen + ";", fourteen.length());
        faultDue(fourteen + " bare", fourteen.length() + 1);
    }

    private static void court() {
        GoldTouch x = told("dead 1 2 0;tool 3 4 1;bears 1 50;wash 1;chill 4;noon 3");
        due("5: no text is no court", x.court(), NOT);
        type(x, "food 5 6 2");
        x.touch(0);
        x.bathe();
        x.put(0);
        x.task(1);
        x.look(0, 0, 1);
        x.keep(1);
        due("5: one clause", x.court(), 1);
        int[] now = {3, 1, 4, 3, 0, 0, 0, 0, 0, 0, 0, 0, 0};
        for (int what = 0; what < now.length; what++) {
            due("5: count " + what, x.count(what), now[what]);
        }
        due("5: he has not bathed", x.hand(2), 2);
        due("5: bears stays", x.floor(1, 0), 50);
        due("5: nothing kept", x.back(1), NOT);
        due("5: the third", x.thing(2, 0), 4);
        type(x, "bears 0 7;court;wash 4;wash 2");
        due("5: in their order", x.court(), 4);
        int[] first = {0, 2, 2, 12};
        for (int what = 0; what < first.length; what++) {
            due("5: at first, count " + what, x.count(what), first[what]);
        }
        due("5: bears as at first", x.floor(0, 0), 99);
        type(x, "dead 1 1 1;dead 1");
        due("5: a fault", x.court(), NOT);
        due("5: nothing was done", x.count(0), 0);
        due("5: the text stays", x.count(12), 17);
        type(x, " ;wash 0");
        x.erase();
        type(x, "court");
        due("5: court alone", x.court(), 1);
        due("5: wash as at first", x.count(1), 3);
        dayAnew();
        x = told("dead 9 1 0;bears 0 5");
        due("5: nothing is broken", x.count(7), 0);
        x.idle();
        due("5: till a deed was done", x.count(7), 1);
    }

    private static void dayAnew() {
        GoldTouch x = told("food 1 0 0;dead 9 0 1;dead 1 0 2;bears 1 20;wash 1;chill 2");
        x.bathe();
        x.eat(0, NONE);
        x.touch(1);
        x.touch(2);
        due("5: till noon", x.thing(2, 4), 1);
        due("5: eaten, broken, gold", x.count(6) + 10 * x.count(7) + 100 * x.count(5), 621);
        type(x, "noon 12");
        x.court();
        due("5: nothing is eaten, broken, gold", x.count(6) + 10 * x.count(7) + 100 * x.count(5), 0);
        due("5: the things stay", x.count(0), 3);
    }

    private static void things() {
        GoldTouch x = told("being 20 40 2;food 3 7 1;bears 2 59;wash 0;chill 1");
        int[] being = {3, 20, 40, 2, 0, 0, 40};
        for (int what = 0; what < being.length; what++) {
            due("6: what " + what, x.thing(0, what), being[what]);
        }
        due("6: below", x.thing(0, -1), OUTSIDE);
        due("6: above", x.thing(0, 7), OUTSIDE);
        due("6: unknown", x.thing(2, 7), UNKNOWN);
        due("6: unknown below", x.thing(-1, 0), UNKNOWN);
        x.bathe();
        x.touch(1);
        due("6: till noon", x.thing(1, 4), 1);
        due("6: its price", x.thing(1, 6), 9);
        x.touch(0);
        due("6: for ever", x.thing(0, 4), 2);
        due("6: on a broken floor", x.thing(0, 6), 0);
        due("6: weight stays", x.thing(0, 1), 20);
        kinds();
    }

    private static void kinds() {
        GoldTouch x = told("dead 1 0 0;tool 2 0 0;gate 3 0 0;being 4 0 0;food 5 0 0;wash 0;chill 0");
        boolean[][] is = {
            {true, true, false, false, false, false}, {true, true, true, false, false, false},
            {true, true, false, true, false, false}, {true, false, false, false, true, false},
            {true, true, false, false, false, true}};
        for (int t = 0; t < 5; t++) {
            for (int k = 0; k < 6; k++) {
                due("7: " + t + " as " + k, x.as(t, k), is[t][k] ? t + 1 : NOT);
            }
        }
        due("7: below", x.as(0, -1), OUTSIDE);
        due("7: above", x.as(0, 6), OUTSIDE);
        due("7: unknown", x.as(5, 6), UNKNOWN);
        x.touch(3);
        due("7: gold", x.as(3, 4), 12);
        x.eat(4, 1);
        due("7: eaten", x.as(4, 5), 0);
        due("6: eaten", x.thing(4, 5), 1);
        due("6: not eaten", x.thing(3, 5), 0);
        due("7: eaten, none such", x.as(4, 2), NOT);
    }

    private static void floors() {
        GoldTouch x = told("tool 9 0 0;tool 4 0 0;tool 4 0 0;food 2 0 0;being 5 0 1;tool 6 0 2;bears 2 10;wash 0;chill 0");
        due("8: bears", x.floor(2, 0), 10);
        due("8: load", x.floor(0, 1), 19);
        due("8: broken", x.floor(2, 2), 0);
        due("8: the tool, lightest and least", x.floor(0, 3), 1);
        due("8: no tool", x.floor(1, 3), NONE);
        due("8: unknown", x.floor(3, 9), UNKNOWN);
        due("8: unknown below", x.floor(-1, 0), UNKNOWN);
        due("8: outside", x.floor(0, 4), OUTSIDE);
        due("8: outside below", x.floor(0, -1), OUTSIDE);
        x.task(1);
        due("8: a task is not the tool", x.floor(0, 3), 2);
        x.touch(0);
        due("8: gold for ever is first", x.floor(0, 3), 0);
        due("8: gold weighs thrice", x.floor(0, 1), 37);
        x.eat(3, 2);
        due("8: eaten weighs nothing", x.floor(0, 1), 43);
        due("8: of gold ones the least", x.floor(0, 3), 0);
        x.touch(5);
        due("8: broken now", x.floor(2, 2), 1);
        due("8: load of a broken floor", x.floor(2, 1), 18);
        due("8: no tool on a broken floor", x.floor(2, 3), NONE);
        x = told("tool 1 0 0;tool 9 0 0;wash 0;chill 0");
        x.touch(1);
        due("8: gold is ahead of the lightest", x.floor(0, 3), 1);
        x = told("tool 3 0 0;bears 0 9;wash 0;chill 0");
        x.touch(0);
        due("8: just what it bears", x.floor(0, 2), 0);
    }

    private static void hand() {
        GoldTouch x = told("wash 2;chill 1");
        x.idle();
        x.bathe();
        x.idle();
        x.bathe();
        int[] hands = {2, 2, 0, 0, 0, 0, 1, 2};
        for (int m = 0; m < hands.length; m++) {
            due("9: minute " + m, x.hand(m), hands[m]);
        }
        due("9: most", x.hand(99), 2);
        due("9: above", x.hand(100), OUTSIDE);
        due("9: below", x.hand(-1), OUTSIDE);
        x.undo();
        due("9: undone", x.hand(4), 1);
        x = told("wash 4;chill 4");
        idle(x, 23);
        x.bathe();
        due("9: the last clean", x.hand(27), 0);
        due("9: the first cold", x.hand(28), 1);
        due("9: the last cold", x.hand(31), 1);
        due("9: hot", x.hand(32), 2);
        x = told("wash 0;chill 0");
        x.bathe();
        due("9: no wash, no chill", x.hand(1), 2);
    }

    private static void touch() {
        GoldTouch x = told("dead 3 0 0;dead 4 0 1;bears 1 11;wash 1;chill 3;noon 3");
        x.bathe();
        due("10: clean", x.touch(0), 0);
        due("10: cold ahead of noon, in the minute next to it", x.touch(0), 1);
        due("10: noon came", x.thing(0, 4), 0);
        due("10: cold at noon", x.touch(0), 2);
        due("10: gold is for ever", x.touch(0), 2);
        due("10: unknown", x.touch(2), UNKNOWN);
        due("10: its floor breaks", x.touch(1), 2);
        due("10: on a broken floor", x.touch(1), NOT);
        due("10: minute", x.count(4), 6);
        idle(x, 18);
        due("10: full", x.touch(0), FULL);
        due("10: not ahead of full", x.touch(1), NOT);
        due("10: unknown ahead of full", x.touch(-1), UNKNOWN);
        x = told("dead 3 0 0;wash 1;chill 2;noon 24");
        x.touch(0);
        x.bathe();
        x.idle();
        due("10: for ever stays so by a cold hand", x.touch(0), 2);
        x = told("dead 3 0 0;wash 0;chill 1;noon 24");
        x.bathe();
        due("10: till noon", x.touch(0), 1);
        due("10: then for ever", x.touch(0), 2);
        x = told("dead 3 0 0;wash 0;chill 1;noon 24");
        idle(x, 22);
        x.bathe();
        due("10: in minute 23", x.touch(0), 1);
        due("10: noon is 24", x.count(5), 0);
        x = told("dead 3 0 0;wash 0;chill 1;noon 0");
        x.bathe();
        due("10: no minute is ahead of 0", x.touch(0), 2);
    }

    private static void by() {
        GoldTouch x = told("tool 2 0 0;food 2 0 0;tool 2 0 1;being 2 0 1;bears 1 7;wash 0;chill 1;noon 9");
        due("11: the tool is gold", x.by(0, 1), 2);
        due("11: the thing is not", x.thing(1, 4), 0);
        due("11: itself", x.by(0, 0), UNKNOWN);
        due("11: unknown tool", x.by(4, 1), UNKNOWN);
        due("11: unknown thing", x.by(0, -1), UNKNOWN);
        due("11: no tool", x.by(1, 0), NOT);
        due("11: another floor", x.by(2, 1), NOT);
        x.bathe();
        due("11: by a cold hand", x.by(2, 3), 1);
        due("11: its floor broke", x.by(2, 3), NOT);
        x.eat(1, 0);
        due("11: eaten", x.by(0, 1), NOT);
        due("11: minute", x.count(4), 4);
        x = told("tool 2 0 0;food 2 0 0");
        idle(x, 24);
        due("11: full", x.by(0, 1), FULL);
        due("11: not ahead of full", x.by(1, 0), NOT);
    }

    private static void eat() {
        GoldTouch x = told("tool 2 0 0;food 2 5 0;food 3 5 0;food 4 5 1;dead 1 1 0;wash 1;chill 1;noon 4");
        due("12: by a hot hand", x.eat(2, NONE), 0);
        due("12: it is gold", x.thing(2, 4), 2);
        due("12: gold can't be eaten by a tool", x.eat(2, 0), 0);
        due("12: yet the tool is touched", x.thing(0, 4), 2);
        due("12: a minute each", x.count(4), 2);
        due("12: no food", x.eat(0, NONE), NOT);
        due("12: no tool", x.eat(1, 4), NOT);
        due("12: a tool elsewhere", x.eat(3, 0), NOT);
        due("12: itself", x.eat(1, 1), UNKNOWN);
        due("12: unknown food", x.eat(5, NONE), UNKNOWN);
        due("12: unknown tool", x.eat(1, -2), UNKNOWN);
        due("12: unknown tool above", x.eat(1, 5), UNKNOWN);
        due("12: by a tool", x.eat(1, 0), 1);
        due("12: eaten", x.eat(1, 0), NOT);
        due("12: eaten, by hand", x.eat(1, NONE), NOT);
        due("12: not gold", x.count(5), 5);
        x = told("food 2 5 0;food 3 5 1;tool 1 1 1;bears 1 4;wash 1;chill 1;noon 3");
        x.bathe();
        due("12: by a clean hand", x.eat(0, NONE), 1);
        due("12: the last cold minute ahead of noon", x.eat(1, NONE), 0);
        due("12: it broke the floor", x.eat(1, 2), NOT);
        idle(x, 21);
        due("12: not ahead of full", x.eat(0, NONE), NOT);
        x = told("food 2 5 0;bears 0 1;wash 1");
        x.bathe();
        due("12: it broke behind the bath", x.eat(0, NONE), NOT);
        x = told("food 2 5 0;wash 1;chill 4;noon 4");
        x.bathe();
        x.idle();
        due("12: gold till noon", x.eat(0, NONE), 0);
        x.idle();
        due("12: at noon it is gold no more", x.thing(0, 4), 0);
        idle(x, 20);
        due("12: full", x.eat(0, NONE), FULL);
    }

    private static void batheIdle() {
        GoldTouch x = new GoldTouch();
        due("13: bathe", x.bathe(), 1);
        due("14: idle", x.idle(), 2);
        for (int m = 3; m <= 23; m++) {
            due("14: idle", x.idle(), m);
        }
        due("13: the last", x.bathe(), 24);
        due("13: full", x.bathe(), FULL);
        due("14: full", x.idle(), FULL);
        due("13: clean at 24", x.hand(24), 0);
    }

    private static void undo() {
        GoldTouch x = told("food 2 5 0;dead 3 1 1;tool 1 1 0;bears 1 8;wash 0;chill 1;noon 3");
        x.bathe();
        x.eat(0, 2);
        x.touch(1);
        due("15: three", x.count(11), 3);
        due("15: the touch", x.undo(), 2);
        due("15: whole again", x.count(7), 0);
        due("15: not gold", x.count(5), 4);
        due("15: till noon again", x.thing(2, 4), 1);
        due("15: the meal", x.undo(), 1);
        due("15: not eaten", x.count(6), 0);
        due("15: the bath", x.undo(), 0);
        due("15: not bathed", x.hand(1), 2);
        due("15: none", x.undo(), NOT);
        x.put(1);
        x.task(1);
        idle(x, 10);
        x.look(1, 9, 0);
        due("15: eight at most", x.count(11), 8);
        for (int left = 7; left >= 0; left--) {
            due("15: back", x.undo(), left);
            due("15: minute", x.count(4), left + 2);
        }
        due("15: no more", x.undo(), NOT);
        due("15: minute", x.count(4), 2);
        due("15: row, tasks and seen stay", x.count(8) + x.count(9) * 10 + x.count(10) * 100, 111);
    }

    private static void keepBack() {
        GoldTouch x = told("food 2 5 0;dead 3 1 1;bears 1 8;wash 4;chill 0");
        due("17: nothing kept", x.back(0), NOT);
        due("16: no such", x.keep(2), UNKNOWN);
        due("16: no such below", x.keep(-1), UNKNOWN);
        due("17: no such", x.back(2), UNKNOWN);
        due("17: no such below", x.back(-1), UNKNOWN);
        x.touch(0);
        due("16: keep", x.keep(1), 1);
        due("17: the other one is not kept", x.back(0), NOT);
        x.touch(1);
        x.bathe();
        x.task(0);
        due("16: the other one", x.keep(0), 3);
        due("16: what can be undone stays", x.count(11), 3);
        due("17: back", x.back(1), 1);
        due("17: gold", x.count(5), 1);
        due("17: whole", x.count(7), 0);
        due("17: not bathed", x.hand(3), 2);
        due("17: nothing can be undone", x.undo(), NOT);
        due("17: tasks stay", x.count(9), 1);
        due("17: forth", x.back(0), 3);
        due("17: bathed", x.hand(3), 0);
        due("17: broken", x.count(7), 2);
        x.idle();
        due("16: once more", x.keep(0), 4);
        due("17: the later one", x.back(0), 4);
        type(x, "wash");
        x.court();
        due("17: a text with a fault leaves it", x.back(1), 1);
        type(x, " 1");
        x.court();
        due("17: a text", x.back(1), NOT);
    }

    private static void town() {
        GoldTouch x = told("gate 2 1 0;gate 4 1 0;being 9 1 0;dead 1 20 1;dead 5 1 2;bears 0 99;bears 2 14");
        due("18: how much", x.town(0, 0), 6 + 12 + 1 + 20 + 1);
        due("18: the set", x.town(0, 1), 3);
        due("18: one gate", x.town(1, 1), 2);
        due("18: one gate, how much", x.town(1, 0), 1 + 12 + 1 + 20 + 1);
        due("18: two gates", x.town(2, 1), 0);
        due("18: none", x.town(3, 0), NONE);
        due("18: none, the set", x.town(3, 1), NONE);
        due("18: most", x.town(8, 1), NONE);
        due("18: g above", x.town(9, 0), OUTSIDE);
        due("18: g below", x.town(-1, 0), OUTSIDE);
        due("18: what above", x.town(0, 2), OUTSIDE);
        due("18: what below", x.town(0, -1), OUTSIDE);
        x.touch(1);
        due("18: a gold gate is shut", x.town(2, 0), NONE);
        due("18: what is gold counts", x.town(1, 0), 1 + 12 + 1 + 20 + 1);
        due("18: of several the least", told("dead 2 6 0;dead 3 9 0").town(0, 1), 0);
        due("18: nothing gained, nothing in the set", told("dead 2 7 0;dead 3 8 0").town(0, 1), 2);
        due("18: no being, though it would pay", told("being 9 1 0;dead 2 1 0").town(0, 1), 2);
        due("18: too much already", told("dead 2 7 0;bears 0 1").town(0, 0), NONE);
        x = told("dead 2 1 0;dead 3 1 0;bears 0 4;wash 0;chill 0");
        x.idle();
        due("18: a broken floor bears no more", x.town(0, 0), 0);
        x = told("gate 5 1 0;dead 5 1 0;bears 0 20;wash 0;chill 1");
        x.bathe();
        x.touch(0);
        due("18: till noon is gold now", x.town(1, 0), NONE);
        due("18: and could be in the set", x.town(0, 0), 16);
        due("18: but need not", x.town(0, 1), 0);
        x = told("food 5 1 0;dead 5 1 0;bears 0 15;tool 1 0 1;wash 1");
        due("18: all weighs", x.town(0, 1), 4);
        x.bathe();
        x.eat(0, NONE);
        due("18: what is eaten does not", x.town(0, 1), 6);
    }

    private static void rowGoes() {
        GoldTouch x = told("dead 5 0 0;dead 5 0 1;dead 5 0 2;bears 0 14;bears 1 15;bears 2 14;food 9 0 1;wash 1");
        due("21: empty", x.goes(0), NONE);
        due("21: empty, floor", x.goes(1), NONE);
        due("21: below", x.goes(-1), OUTSIDE);
        due("21: above", x.goes(2), OUTSIDE);
        due("19: unknown", x.put(4), UNKNOWN);
        due("19: unknown below", x.put(-1), UNKNOWN);
        due("19: one", x.put(1), 1);
        due("19: twice", x.put(1), 2);
        due("21: with the food it is too much", x.goes(0), 0);
        x.bathe();
        x.eat(3, NONE);
        due("21: without it is not", x.goes(0), NONE);
        due("19: eaten can be put", x.put(3), 3);
        due("19: two", x.put(2), 4);
        due("21: place", x.goes(0), 3);
        due("21: floor", x.goes(1), 2);
        for (int i = 5; i <= 8; i++) {
            due("19: more", x.put(0), i);
        }
        due("19: full", x.put(0), FULL);
        due("19: unknown ahead of full", x.put(9), UNKNOWN);
        due("20: wipe", x.wipe(), 8);
        due("20: again", x.wipe(), 0);
        due("21: nothing", x.goes(0), NONE);
        x.put(0);
        due("21: at once", x.goes(0), 0);
        due("21: floor 0", x.goes(1), 0);
        x.idle();
        x.touch(0);
        due("21: what is broken goes no more", x.goes(0), NONE);
        x = told("dead 5 0 0;dead 5 0 1;bears 1 4;bears 2 0;dead 1 0 2");
        x.put(0);
        due("21: too much ahead of all", x.goes(0), 0);
        due("21: of several the least", x.goes(1), 1);
    }

    private static void taskDrop() {
        GoldTouch x = told("dead 1 0 0;dead 1 0 0;dead 1 0 0;dead 1 0 0;food 1 0 0");
        due("22: unknown", x.task(5), UNKNOWN);
        due("22: unknown below", x.task(-1), UNKNOWN);
        for (int t = 0; t < 4; t++) {
            due("22: one more", x.task(t), t + 1);
        }
        due("22: not ahead of full", x.task(3), NOT);
        due("22: full", x.task(4), FULL);
        due("22: unknown ahead of all", x.task(8), UNKNOWN);
        due("23: drop", x.drop(), 4);
        due("23: again", x.drop(), 0);
        due("22: anew", x.task(4), 1);
        due("22: it is one", x.task(4), NOT);
    }

    private static void planDue(GoldTouch x, int cost, int end, int first) {
        due("24: cost", x.plan(0), cost);
        due("24: end", x.plan(1), end);
        due("24: first", x.plan(2), first);
    }

    private static void plan() {
        GoldTouch x = told("tool 7 0 0;dead 1 0 0;being 1 0 0;dead 1 0 1;wash 2;chill 1;noon 24");
        due("24: below", x.plan(-1), OUTSIDE);
        due("24: above", x.plan(3), OUTSIDE);
        planDue(x, 0, NONE, NONE);
        x.task(1);
        x.task(2);
        planDue(x, 0, 2, 2);
        x.task(3);
        planDue(x, 0, 3, 2);
        x.bathe();
        // Thing 3 has no tool on its floor, so it is no later than the second one.
        planDue(x, 0, 3, 11);
        x.idle();
        // 13, by the tool, a bath, by hand ends in 5, too: the bath first is the lesser deed.
        planDue(x, 0, 5, 2);
        x.idle();
        planDue(x, 0, 6, 2);
        x.drop();
        x.task(1);
        planDue(x, 0, 3, 21);
        planByTools();
        planNoWay();
    }

    private static void planByTools() {
        GoldTouch x = told("tool 7 0 0;dead 1 0 0;dead 1 0 0;tool 5 0 1;dead 1 0 1;wash 0;chill 0");
        x.task(1);
        x.task(2);
        x.task(4);
        planDue(x, 12, 2, 21);
        x.by(0, 1);
        planDue(x, 5, 3, 21);
        x.task(0);
        due("24: the tool is a task: no way", x.plan(0), NONE);
        x = told("tool 7 0 0;dead 1 0 0;dead 1 0 0;wash 0;chill 1;noon 3");
        x.task(1);
        planDue(x, 0, 1, 2);
        x.task(2);
        // Two cold minutes ahead of noon can't be had any more.
        planDue(x, 7, 1, 21);
        x = told("dead 1 0 0;being 1 0 0;tool 7 0 0;wash 0;chill 1;noon 24");
        x.task(0);
        x.task(1);
        planDue(x, 0, 3, 2);
        idle(x, 21);
        planDue(x, 7, 22, 20);
        x.idle();
        planDue(x, 7, 23, 20);
        x = told("tool 2 0 0;dead 1 0 0;tool 1 0 1;dead 1 0 1;dead 1 0 1;wash 0;chill 1;noon 2");
        x.task(1);
        x.task(3);
        // The cold minute 1 is the only free one: for the dearer tool, though it ends later.
        planDue(x, 1, 2, 2);
        x.task(4);
        planDue(x, 1, 3, 2);
        x = told("tool 7 0 0;tool 6 0 0;dead 1 0 0;wash 0;chill 1;noon 24");
        x.bathe();
        x.touch(0);
        x.task(2);
        idle(x, 1);
        due("24: till noon is not for ever", x.floor(0, 3), 1);
        idle(x, 20);
        planDue(x, 6, 23, 22);
    }

    private static void planNoWay() {
        GoldTouch x = told("dead 1 0 0;food 1 0 1;dead 9 0 2;bears 2 8;wash 1");
        x.task(0);
        planDue(x, 0, 1, 2);
        idle(x, 22);
        planDue(x, 0, 23, 2);
        x.idle();
        planDue(x, NONE, NONE, NONE);
        x.undo();
        x.bathe();
        planDue(x, 0, 23, 10);
        x.idle();
        planDue(x, NONE, NONE, NONE);
        x.drop();
        planDue(x, 0, NONE, NONE);
        x = told("dead 1 0 0;food 1 0 1;dead 9 0 2;bears 2 8;wash 1");
        x.task(2);
        planDue(x, 0, 1, 2);
        x.idle();
        planDue(x, NONE, NONE, NONE);
        x.drop();
        x.bathe();
        x.eat(1, NONE);
        x.task(1);
        planDue(x, NONE, NONE, NONE);
        due("24: outside all the same", x.plan(3), OUTSIDE);
        x = told("food 1 0 0;dead 1 0 1;wash 1");
        x.bathe();
        x.eat(0, NONE);
        x.task(0);
        planDue(x, NONE, NONE, NONE);
    }

    private static void prices() {
        GoldTouch x = told("dead 5 20 0;dead 5 2 1;food 1 7 2;wash 0;chill 4;noon 6;bears 0 14");
        due("25: at first", x.price(0), 29);
        due("26: at first", x.sell(0), 0);
        x.bathe();
        x.touch(0);
        due("25: its floor broke", x.price(2), 9);
        x.touch(1);
        due("25: now", x.price(3), 22);
        due("25: gone by", x.price(2), OUTSIDE);
        due("25: below", x.price(-1), OUTSIDE);
        due("25: the last minute ahead of noon", x.price(5), 22);
        due("25: noon", x.price(6), 9);
        due("25: 24", x.price(24), 9);
        due("25: above", x.price(25), OUTSIDE);
        due("26: now", x.sell(0), 3);
        due("26: prices", x.sell(1), 22);
        due("26: below", x.sell(-1), OUTSIDE);
        due("26: above", x.sell(2), OUTSIDE);
        due("26: nothing changed", x.count(4), 3);
        x = told("dead 1 20 0;wash 0;chill 4;noon 6");
        x.bathe();
        x.touch(0);
        due("26: it pays to wait", x.sell(0), 6);
        due("26: for so much", x.sell(1), 20);
        idle(x, 22);
        due("26: at the end", x.sell(0), 24);
        due("25: at the end", x.price(24), 20);
        x = told("dead 2 3 0;bears 0 1");
        due("25: not broken yet", x.price(0), 3);
        due("25: broken behind the first rest", x.price(1), 0);
    }

    private static void thief() {
        GoldTouch x = new GoldTouch();
        due("27: none", x.thief(0), 0);
        due("27: none, thing", x.thief(1), NONE);
        due("27: none, floor", x.thief(2), NONE);
        due("27: below", x.thief(-1), OUTSIDE);
        due("27: above", x.thief(3), OUTSIDE);
        x = told("dead 2 6 0;dead 4 2 1");
        // The thief has 0 by thing 0, 10 by thing 1: the guard stays on floor 1.
        due("27: how many", x.thief(0), 2);
        due("27: thing", x.thief(1), 0);
        due("27: floor", x.thief(2), 1);
        x = told("dead 2 0 0;dead 1 0 1;dead 2 5 2");
        // 6, 3 and 1: the guard on floor 0 leaves him 3, but is then to be on floor 1.
        due("27: none", x.thief(0), 0);
        x = told("dead 3 7 0;dead 2 4 1;food 4 12 2");
        due("27: none, nor here", x.thief(0), 0);
        x = told("dead 4 11 0;dead 4 12 1;dead 4 13 2");
        due("27: three times the weight", x.thief(0), 3);
        x = told("dead 4 2 0;dead 4 2 1");
        due("27: he runs, and runs", x.thief(0), 0);
        x = told("dead 1 40 0;dead 1 40 2");
        due("27: below 0 is nothing", x.thief(0), 6);
        x = told("dead 2 6 0;food 4 2 1;wash 1");
        x.bathe();
        x.eat(1, NONE);
        due("27: eaten is nothing", x.thief(0), 6);
        x = told("dead 2 6 0;bears 0 1");
        x.idle();
        due("27: on a broken floor its price is nothing", x.thief(0), 1);
        due("27: so he is kept from it", x.thief(2), 0);
    }

    private static void lookForget() {
        GoldTouch x = told("dead 1 0 0;dead 1 0 0");
        due("28: no minute gone by", x.look(0, 0, 0), OUTSIDE);
        idle(x, 2);
        due("28: unknown", x.look(2, 5, 5), UNKNOWN);
        due("28: unknown below", x.look(-1, 0, 0), UNKNOWN);
        due("28: this minute", x.look(0, 2, 0), OUTSIDE);
        due("28: below", x.look(0, -1, 0), OUTSIDE);
        due("28: gold below", x.look(0, 0, -1), OUTSIDE);
        due("28: gold above", x.look(0, 0, 2), OUTSIDE);
        for (int i = 1; i <= 6; i++) {
            due("28: seen", x.look(i & 1, 1, 0), i);
        }
        due("28: full", x.look(0, 0, 0), FULL);
        due("28: outside ahead of full", x.look(0, 2, 0), OUTSIDE);
        due("29: forget", x.forget(), 6);
        due("29: again", x.forget(), 0);
        due("28: anew", x.look(1, 0, 1), 1);
    }

    private static void fit() {
        GoldTouch x = told("dead 1 0 0;dead 1 0 0;wash 1;chill 3;noon 4");
        due("30: unknown", x.fit(2), UNKNOWN);
        due("30: unknown below", x.fit(-1), UNKNOWN);
        due("30: no minute gone by", x.fit(0), 1 << 24);
        x.bathe();
        idle(x, 6);
        // Hot in 0, clean in 1, cold in 2, 3 (till noon), 4 (for ever), hot in 5, 6.
        due("30: nothing seen", x.fit(0), (1 << 24) + 127);
        x.look(0, 3, 1);
        due("30: gold ahead of noon", x.fit(0), 1 + 4 + 8);
        due("30: the other one", x.fit(1), (1 << 24) + 127);
        x.look(0, 4, 0);
        due("30: and not at noon", x.fit(0), 4 + 8);
        x.look(0, 2, 0);
        due("30: and not sooner", x.fit(0), 8);
        x.look(0, 2, 1);
        due("30: seen both ways", x.fit(0), 0);
        x.look(1, 4, 1);
        due("30: gold at noon", x.fit(1), 1 + 16);
        x.forget();
        x.look(1, 6, 0);
        due("30: not gold at the end", x.fit(1), (1 << 24) + 2 + 4 + 8);
        x = told("dead 1 0 0");
        idle(x, 24);
        x.look(0, 23, 1);
        due("30: a whole day", x.fit(0), (1 << 24) - 1);
    }

    private static void baths() {
        GoldTouch x = told("wash 2");
        due("31: below", x.baths(-1, 0), OUTSIDE);
        due("31: above", x.baths(4096, 0), OUTSIDE);
        due("31: what below", x.baths(0, -1), OUTSIDE);
        due("31: what above", x.baths(0, 2), OUTSIDE);
        due("31: none told", x.baths(0, 0), 0);
        due("31: none told, set", x.baths(0, 1), 0);
        due("31: this minute", x.baths(1, 0), NONE);
        due("31: this minute, set", x.baths(1, 1), NONE);
        due("31: of several the least", x.baths(4, 1), 1);
        due("31: one for two", x.baths(4 + 8, 1), 2);
        due("31: how many", x.baths(4 + 8, 0), 1);
        due("31: three in a row", x.baths(4 + 8 + 16, 0), NONE);
        due("31: the last", x.baths(2048, 1), 512);
        due("31: two", x.baths(4 + 2048, 0), 2);
        due("31: two, the least", x.baths(4 + 2048, 1), 1 + 512);
        x.bathe();
        due("31: clean by the bath gone by", x.baths(3, 1), 0);
        due("31: not for so long", x.baths(7, 1), NONE);
        idle(x, 23);
        due("31: above 23", x.baths(2, 1), 1);
        x = told("wash 0;chill 4");
        due("31: no wash", x.baths(2, 0), NONE);
        due("31: no wash, none told", x.baths(0, 0), 0);
        x = told("wash 4");
        due("31: all told", x.baths(4095, 0), NONE);
        due("31: two fifths", x.baths(30 + 32 * 30, 1), 1 + 32);
    }

    private static void slips() {
        GoldTouch x = new GoldTouch();
        due("32: a half", x.slips(5, 1, 0, 0), 1);
        due("32: of two", x.slips(5, 1, 0, 1), 2);
        due("32: one of three", x.slips(2, 3, 1, 0), 112);
        due("32: of 125", x.slips(2, 3, 1, 1), 125);
        due("32: all may", x.slips(7, 4, 4, 0), 1);
        due("32: all may, below", x.slips(7, 4, 6, 1), 1);
        due("32: none", x.slips(10, 6, 5, 0), 0);
        due("32: none, below", x.slips(10, 6, 5, 1), 1);
        due("32: no times", x.slips(10, 0, 0, 0), 1);
        due("32: never", x.slips(0, 6, 0, 1), 1);
        due("32: six, above", x.slips(1, 6, 0, 0), 531441);
        due("32: six, below", x.slips(1, 6, 0, 1), 1000000);
        int[][] wrong = {{-1, 0, 0, 0}, {11, 0, 0, 0}, {0, -1, 0, 0}, {0, 7, 0, 0},
            {0, 0, -1, 0}, {0, 0, 7, 0}, {0, 0, 0, -1}, {0, 0, 0, 2}};
        for (int[] w : wrong) {
            due("32: outside", x.slips(w[0], w[1], w[2], w[3]), OUTSIDE);
        }
    }

    private static void count() {
        GoldTouch x = told("food 1 0 0;dead 9 0 1;tool 1 0 0;bears 1 20;wash 0;chill 1;noon 20");
        x.bathe();
        x.eat(0, 2);
        x.touch(1);
        x.put(1);
        x.put(1);
        x.task(1);
        x.look(0, 0, 0);
        x.write('x');
        int[] all = {3, 0, 1, 20, 3, 6, 1, 2, 2, 1, 1, 3, 1};
        for (int what = 0; what < all.length; what++) {
            due("33: count " + what, x.count(what), all[what]);
        }
        due("33: below", x.count(-1), OUTSIDE);
        due("33: above", x.count(13), OUTSIDE);
    }
}
