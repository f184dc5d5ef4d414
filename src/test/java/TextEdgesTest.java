/** Terms 1 and promises 1 to 5, sentence by sentence: what a text may tell, and where it stops. */
public final class TextEdgesTest {
    private static final int NONE = -1, UNKNOWN = -2, OUTSIDE = -3, NOT = -4, FULL = -5;
    private static final Check CHECK = new Check("TextEdgesTest");
    private static final String EIGHT = Runs.times("dead 1 0 0", 8, ";");
    private static final String FOURTEEN = Runs.times("bare", 14, ";");

    private static void sentence(String words) {
        CHECK.sentence(words);
    }

    private static void due(String call, long got, long want) {
        CHECK.due(call, got, want);
    }

    private static void fine(String text, int clauses) {
        GoldTouch x = Runs.typed(text);
        due("fault of '" + text + "'", x.fault(), NONE);
        due("court of '" + text + "'", x.court(), clauses);
        due("letters behind it", x.count(12), 0);
    }

    private static void faultAt(String text, int place) {
        GoldTouch x = Runs.typed(text);
        due("fault of '" + text + "'", x.fault(), place);
        due("court of '" + text + "'", x.court(), NOT);
        due("letters behind it", x.count(12), text.length());
    }

    public static void main(String[] args) {
        things();
        bounds();
        atFirst();
        letters();
        clauses();
        forms();
        meanings();
        tokens();
        tooSoon();
        behindClauses();
        newObject();
        writing();
        erasing();
        faulting();
        courting();
        CHECK.end();
    }

    private static void things() {
        sentence("THINGS are 0, 1 .. as they come");
        GoldTouch x = Runs.told("dead 7 0 0;food 9 0 0");
        Runs.tell(x, "gate 11 0 0;being 13 0 0");
        for (int t = 0; t < 4; t++) {
            due("weight of " + t, x.thing(t, 1), 7 + 2 * t);
        }
        sentence("THINGS .. 8 at most");
        fine(EIGHT, 8);
        due("the eighth", Runs.told(EIGHT).thing(7, 1), 1);
        due("no ninth", Runs.told(EIGHT).thing(8, 1), UNKNOWN);
        faultAt(EIGHT + ";dead 1 0 0", EIGHT.length() + 1);
        sentence("THINGS .. (none at first)");
        x = new GoldTouch();
        due("count", x.count(0), 0);
        due("thing", x.thing(0, 0), UNKNOWN);
        due("as", x.as(0, 0), UNKNOWN);
        due("touch", x.touch(0), UNKNOWN);
        due("by", x.by(0, 1), UNKNOWN);
        due("eat", x.eat(0, NONE), UNKNOWN);
        due("put", x.put(0), UNKNOWN);
        due("task", x.task(0), UNKNOWN);
        due("fit", x.fit(0), UNKNOWN);
        x.idle();
        due("look", x.look(0, 0, 0), UNKNOWN);
        sentence("of a KIND, 0 DEAD, 1 TOOL, 2 GATE, 3 BEING, 4 FOOD");
        for (int k = 0; k < 5; k++) {
            due(Runs.KINDS[k], Runs.told(Runs.KINDS[k] + " 2 3 1").thing(0, 0), k);
        }
    }

    private static void bounds() {
        sentence("of a WEIGHT (1 .. 20)");
        for (String kind : Runs.KINDS) {
            faultAt(kind + " 0 0 0", kind.length() + 1);
            faultAt(kind + " 00 0 0", kind.length() + 1);
            due("least", Runs.told(kind + " 1 0 0").thing(0, 1), 1);
            due("most", Runs.told(kind + " 20 0 0").thing(0, 1), 20);
            faultAt(kind + " 21 0 0", kind.length() + 1);
            faultAt(kind + " 99 0 0", kind.length() + 1);
        }
        sentence("a WORTH (0 .. 40)");
        for (String kind : Runs.KINDS) {
            due("least", Runs.told(kind + " 1 0 0").thing(0, 2), 0);
            due("most", Runs.told(kind + " 1 40 0").thing(0, 2), 40);
            faultAt(kind + " 1 41 0", kind.length() + 3);
            faultAt(kind + " 1 99 0", kind.length() + 3);
        }
        sentence("on a FLOOR (0 .. 2)");
        for (String kind : Runs.KINDS) {
            for (int f = 0; f <= 2; f++) {
                due("floor " + f, Runs.told(kind + " 1 0 " + f).thing(0, 3), f);
            }
            faultAt(kind + " 1 0 3", kind.length() + 5);
            faultAt(kind + " 1 0 10", kind.length() + 5);
        }
        sentence("A FLOOR BEARS 0 .. 99");
        for (int f = 0; f <= 2; f++) {
            due("least", Runs.told("bears " + f + " 0").floor(f, 0), 0);
            due("most", Runs.told("bears " + f + " 0;bears " + f + " 99").floor(f, 0), 99);
            faultAt("bears " + f + " 100", 8);
        }
        faultAt("bears 3 0", 6);
        faultAt("bears 99 0", 6);
        sentence("WASH is 0 .. 4");
        boundsOf("wash", 4, 1);
        sentence("CHILL 0 .. 4");
        boundsOf("chill", 4, 2);
        sentence("NOON 0 .. 24");
        boundsOf("noon", 24, 3);
    }

    private static void boundsOf(String word, int most, int what) {
        for (int n = 0; n <= most; n++) {
            due(word + " " + n, Runs.told(word + " " + n).count(what), n);
        }
        faultAt(word + " " + (most + 1), word.length() + 1);
        faultAt(word + " 99", word.length() + 1);
        faultAt(word + " -1", word.length() + 1);
    }

    private static void atFirst() {
        GoldTouch x = new GoldTouch();
        sentence("A FLOOR BEARS .. (99 at first)");
        for (int f = 0; f <= 2; f++) {
            due("bears " + f, x.floor(f, 0), 99);
        }
        sentence("WASH .. (3 at first)");
        due("wash", x.count(1), 3);
        sentence("CHILL .. (2 at first)");
        due("chill", x.count(2), 2);
        sentence("NOON .. (12 at first)");
        due("noon", x.count(3), 12);
    }

    private static void letters() {
        sentence("THE TEXT is a row of letters, 160 at most");
        fine("court" + " ".repeat(155), 1);
        fine(" ".repeat(155) + "court", 1);
        GoldTouch x = Runs.typed(" ".repeat(154) + "wash 0");
        due("the 161st", x.write('0'), FULL);
        due("what has 160 is done", x.court(), 1);
        due("its last letter, too", x.count(1), 0);
        faultAt(" ".repeat(156) + "cour", 156);
        faultAt(" ".repeat(160), 160);
    }

    private static void clauses() {
        sentence("CLAUSES with ; between");
        fine("court;bare", 2);
        fine("court ; bare", 2);
        faultAt(";", 0);
        faultAt(";court", 0);
        faultAt("court;;bare", 6);
        faultAt("court bare", 6);
        faultAt("court,bare", 5);
        faultAt("court:bare", 5);
        faultAt("wash 1 chill 1", 7);
        sentence("CLAUSES .. 14 at most");
        fine(Runs.times("bare", 13, ";"), 13);
        fine(FOURTEEN, 14);
        fine(FOURTEEN + "  ", 14);
        faultAt(FOURTEEN + ";bare", FOURTEEN.length());
        faultAt(FOURTEEN + ";", FOURTEEN.length());
        faultAt(FOURTEEN + " ; bare", FOURTEEN.length() + 1);
        faultAt(FOURTEEN + "bare", FOURTEEN.length() - 4);
        faultAt(FOURTEEN + " bare", FOURTEEN.length() + 1);
    }

    private static void forms() {
        sentence("each is one of: court");
        form("court");
        sentence("dead W V F. tool W V F. gate W V F. being W V F. food W V F");
        for (String kind : Runs.KINDS) {
            form(kind + " 3 4 1");
        }
        sentence("bears F B");
        form("bears 1 4");
        sentence("wash N");
        form("wash 2");
        sentence("chill N");
        form("chill 2");
        sentence("noon M");
        form("noon 2");
        sentence("bare");
        form("bare");
        sentence("(As written here, without points)");
        faultAt("court.", 5);
        faultAt("wash 1.", 6);
        faultAt("courtx", 0);
        faultAt("cour", 0);
        faultAt("bear 0 1", 0);
        faultAt("mourt", 0);
        faultAt("aead 1 1 1", 0);
        faultAt("nothing", 0);
        faultAt("1", 0);
    }

    /** A clause is fine alone; one number more, or one token less at its end, is not. */
    private static void form(String clause) {
        fine(clause, 1);
        faultAt(clause + " 1", clause.length() + 1);
        faultAt(clause + " a", clause.length() + 1);
        int last = clause.lastIndexOf(' ');
        if (last >= 0) {
            faultAt(clause.substring(0, last), last);
            faultAt(clause.substring(0, last) + ";bare", last);
            faultAt(clause.substring(0, last) + " x", last + 1);
        }
    }

    private static void meanings() {
        sentence("court: all as at first");
        GoldTouch x = Runs.told("dead 1 1 1;bears 0 1;bears 1 2;bears 2 3;wash 0;chill 0;noon 0");
        Runs.tell(x, "court");
        Runs.same(CHECK, "as a new one", Runs.all(x), Runs.all(new GoldTouch()));
        sentence("a ninth cannot stand there (at its word)");
        for (String kind : Runs.KINDS) {
            faultAt(EIGHT + ";" + kind + " 1 0 0", EIGHT.length() + 1);
            faultAt(EIGHT + ";  " + kind, EIGHT.length() + 3);
            faultAt(EIGHT + ";" + kind + " 0", EIGHT.length() + 1);
        }
        fine(EIGHT + ";bears 0 1;wash 1;chill 1;noon 1", 12);
        fine(EIGHT + ";bare;tool 1 0 0", 10);
        fine(EIGHT + ";court;tool 1 0 0", 10);
        x = Runs.told(EIGHT);
        Runs.type(x, "noon 3;food 1 0 0");
        due("a ninth of an earlier text's eight", x.fault(), 7);
        sentence("bears: FLOOR F BEARS B");
        x = Runs.told("bears 1 7");
        due("floor 0", x.floor(0, 0), 99);
        due("floor 1", x.floor(1, 0), 7);
        due("floor 2", x.floor(2, 0), 99);
        sentence("bare: no THINGS");
        x = Runs.told("dead 1 1 1;bears 1 7;wash 1;chill 0;noon 5");
        Runs.tell(x, "bare");
        due("things", x.count(0), 0);
        due("load", x.floor(1, 1), 0);
        due("bears stays", x.floor(1, 0), 7);
        due("wash, chill, noon stay", x.count(1) * 100 + x.count(2) * 10 + x.count(3), 105);
        due("eight fit again", Runs.tell(x, EIGHT).count(0), 8);
        sentence("CLAUSES are done in their order");
        due("the later wash", Runs.told("wash 1;wash 4").count(1), 4);
        due("the later bears", Runs.told("bears 0 9;bears 0 8").floor(0, 0), 8);
        due("court behind all", Runs.told("wash 1;dead 1 1 1;court").count(0), 0);
        due("bare between", Runs.told("dead 1 1 1;bare;dead 5 1 1").thing(0, 1), 5);
    }

    private static void tokens() {
        sentence("small letters a .. z");
        faultAt("COURT", 0);
        faultAt("courT", 0);
        faultAt("`court", 0);
        faultAt("court`", 5);
        faultAt("court{", 5);
        faultAt("courta", 0);
        faultAt("courtz", 0);
        sentence("numbers of 1 or 2 digits");
        due("noon 09", Runs.told("noon 09").count(3), 9);
        due("noon 10", Runs.told("noon 10").count(3), 10);
        due("wash 00", Runs.told("wash 00").count(1), 0);
        faultAt("wash 1/", 6);
        faultAt("wash 1:", 6);
        sentence("blanks between");
        fine("  wash   1  ;  noon   2  ", 2);
        faultAt("wash\t1", 4);
        faultAt("wash\n1", 4);
        faultAt("wash" + (char) 160 + "1", 4);
        faultAt("wa sh 1", 0);
        faultAt("noon 1 2", 7);
        sentence("A FAULT is at the first TOKEN .. that cannot stand there");
        faultAt("wash 9;nothing", 5);
        faultAt("court;wash 9 9 9", 11);
        faultAt("court;nothing;wash 9", 6);
        faultAt("dead 1 99 99", 7);
        sentence("a row of small letters");
        faultAt("wash one", 5);
        faultAt("wash 1one", 6);
        sentence("a row of digits");
        faultAt("12court", 0);
        faultAt("court12", 5);
        faultAt("wash 12345", 5);
        sentence("any other letter");
        for (int letter : new int[] {0, 1, 9, 10, 31, 33, '-', '.', ':', '<', 'A', 'Z', 127, 128, 160, 233, 255}) {
            faultAt((char) letter + "court", 0);
            faultAt("court " + (char) letter + (char) letter, 6);
            faultAt("wash " + (char) letter + "1", 5);
        }
        sentence("(a number out of its bounds, of more digits, also)");
        faultAt("wash 5", 5);
        faultAt("wash 001", 5);
        faultAt("noon 024", 5);
        faultAt("dead 001 1 1", 5);
        faultAt("dead 1 000 1", 7);
        faultAt("dead 1 1 000", 9);
        faultAt("bears 000 1", 6);
        faultAt("bears 0 099", 8);
        faultAt("wash 4294967296", 5);
        faultAt("wash 4294967297;bare", 5);
    }

    private static void tooSoon() {
        sentence("or at the end, if it comes too soon");
        for (String text : new String[] {"", " ", "dead", "dead ", "dead 1", "dead 1  ", "dead 1 1", "tool 2 2", "gate 2 2",
            "being 2 2", "food 2 2", "bears", "bears 0", "wash", "chill", "noon", "noon  ", "court;", "court; ", "wash 1;noon"}) {
            faultAt(text, text.length());
        }
    }

    private static GoldTouch lived() {
        GoldTouch x = Runs.told("food 1 2 0;dead 9 2 1;dead 1 2 2;bears 1 20;wash 1;chill 3;noon 20");
        x.bathe();
        x.eat(0, NONE);
        x.touch(2);
        x.touch(1);
        x.touch(2);
        x.keep(0);
        x.keep(1);
        x.put(1);
        x.task(2);
        x.look(2, 1, 1);
        x.bathe();
        return x;
    }

    private static void behindClauses() {
        GoldTouch old = lived();
        CHECK.sentence("Behind them it is MINUTE 0");
        due("ahead of it", old.count(4), 6);
        GoldTouch x = Runs.tell(lived(), "noon 20");
        due("minute", x.count(4), 0);
        sentence("he has not BATHED");
        due("ahead of it", old.hand(1) * 10 + old.hand(6), 0);
        for (int m = 0; m < 12; m++) {
            due("hand " + m, x.hand(m), 2);
        }
        sentence("nothing is GOLD");
        due("ahead of it", old.count(5), 6);
        due("gold", x.count(5), 0);
        due("as told by the thing", x.thing(1, 4) + x.thing(2, 4), 0);
        sentence("nothing is .. EATEN");
        due("ahead of it", old.count(6), 1);
        due("eaten", x.count(6), 0);
        sentence("nothing is .. BROKEN");
        due("ahead of it", old.count(7), 2);
        due("broken", x.count(7), 0);
        sentence("nothing is .. SEEN");
        due("ahead of it", old.count(10), 1);
        due("seen", x.count(10), 0);
        due("fit", x.fit(2), 1 << 24);
        sentence("there are no TASKS");
        due("ahead of it", old.count(9), 1);
        due("tasks", x.count(9), 0);
        due("plan", x.plan(1), NONE);
        sentence("THE ROW is empty");
        due("ahead of it", old.count(8), 1);
        due("row", x.count(8), 0);
        sentence("nothing is kept");
        due("ahead of it", old.back(0), 5);
        due("0", x.back(0), NOT);
        due("1", x.back(1), NOT);
        sentence("or can be undone");
        due("ahead of it", lived().count(11), 6);
        due("undone", x.count(11), 0);
        due("undo", x.undo(), NOT);
        sentence("(a FLOOR that a text loads too much is BROKEN only behind a DEED)");
        x = Runs.told("dead 9 1 0;bears 0 5");
        due("not yet", x.floor(0, 2), 0);
        due("it can be touched", x.touch(0), 2);
        due("then it is", x.floor(0, 2), 1);
    }

    private static void newObject() {
        sentence("GoldTouch(): No THINGS.");
        GoldTouch x = new GoldTouch();
        int[] first = {0, 3, 2, 12, 0, 0, 0, 0, 0, 0, 0, 0, 0};
        for (int what = 0; what < first.length; what++) {
            due("count " + what, x.count(what), first[what]);
        }
        for (int f = 0; f <= 2; f++) {
            due("bears", x.floor(f, 0), 99);
            due("load", x.floor(f, 1), 0);
            due("broken", x.floor(f, 2), 0);
            due("the tool", x.floor(f, 3), NONE);
        }
        due("back", x.back(0), NOT);
        due("undo", x.undo(), NOT);
    }

    private static void writing() {
        sentence("write: A letter (its number, 0 .. 255) more of THE TEXT: how many it has");
        for (int letter : new int[] {0, 255}) {
            GoldTouch x = new GoldTouch();
            due("letter " + letter, x.write(letter), 1);
            due("once more", x.write(letter), 2);
        }
        sentence("write: OUTSIDE");
        for (int letter : new int[] {-1, 256, 256 + 'c', -256 + 'c', 65536 + 'c', Integer.MIN_VALUE, Integer.MAX_VALUE}) {
            Runs.refused(CHECK, "write " + letter, () -> Runs.typed("noon 3"), x -> x.write(letter), OUTSIDE);
        }
        sentence("write: FULL");
        GoldTouch full = new GoldTouch();
        for (int i = 1; i <= 160; i++) {
            due("write", full.write('b'), i);
        }
        due("full", full.write('b'), FULL);
        due("still full", full.write('b'), FULL);
        due("160", full.count(12), 160);
        Runs.refused(CHECK, "write", () -> Runs.typed("x".repeat(160)), x -> x.write('b'), FULL);
        sentence("write: OUTSIDE; FULL: the first of these that fits");
        Runs.refused(CHECK, "write", () -> Runs.typed("x".repeat(160)), x -> x.write(256), OUTSIDE);
    }

    private static void erasing() {
        sentence("erase: THE TEXT is empty: how many letters it had");
        GoldTouch x = new GoldTouch();
        due("empty", x.erase(), 0);
        x.write('c');
        due("one", x.erase(), 1);
        due("none", x.count(12), 0);
        Runs.type(x, "x".repeat(160));
        due("full", x.erase(), 160);
        due("again", x.erase(), 0);
        Runs.type(x, "wash 1");
        due("nothing of the old one is left", x.fault(), NONE);
        x = lived();
        Runs.type(x, "court");
        x.erase();
        Runs.same(CHECK, "no more than the text goes", Runs.all(x), Runs.all(lived()));
    }

    private static void faulting() {
        sentence("fault: The place of the FAULT (the letter with which the TOKEN begins, or the length); NONE");
        faultAt("court; nothing", 7);
        faultAt("noon 100", 5);
        faultAt("court;bears 0 ", 14);
        fine("court", 1);
        sentence("fault: nothing changes");
        for (String text : new String[] {"", "court", "bare;wash 9", "dead 1 1 1;noon 4", "dead", Runs.times("tool 1 1 1", 5, ";")}) {
            Runs.changesNothing(CHECK, "fault", () -> {
                GoldTouch x = lived();
                Runs.type(x, text);
                return x;
            }, GoldTouch::fault);
        }
    }

    private static void courting() {
        sentence("court: THE TEXT's CLAUSES are done, and it is empty then: how many there were");
        GoldTouch x = Runs.typed("wash 1;dead 1 2 0;noon 7");
        due("three", x.court(), 3);
        due("empty", x.count(12), 0);
        due("done", x.count(0) * 1000 + x.count(1) * 100 + x.count(3), 1107);
        due("a text can follow", x.write('b'), 1);
        sentence("court: NOT: it has a FAULT");
        for (String text : new String[] {"", "  ", "court;", "bare;wash 1;noon 25", FOURTEEN + ";bare"}) {
            Runs.refused(CHECK, "court of '" + text + "'", () -> {
                GoldTouch y = lived();
                Runs.type(y, text);
                return y;
            }, GoldTouch::court, NOT);
        }
        sentence("court: a FAULT can be mended by more letters");
        x = Runs.typed("wash 1;noon 2");
        x.write(';');
        due("not", x.court(), NOT);
        Runs.type(x, "chill 4");
        due("now", x.court(), 3);
    }
}
