import java.util.Random;

/** Runs of calls by chance (always the same chance), each answer held against the Oracle's. */
public final class OracleTest {
    private static final int RUNS = 1500, CALLS = 512;
    private static final String[] KINDS = {"dead", "tool", "gate", "being", "food"};

    private final Check check = new Check("OracleTest");
    private final Random chance = new Random(Long.getLong("seed", 20261118L));
    private GoldTouch x;
    private Oracle o;
    private int run;
    private int calls;
    private final int[] refused = new int[6];

    public static void main(String[] args) {
        OracleTest test = new OracleTest();
        for (test.run = 0; test.run < RUNS && !test.check.isWrong(); test.run++) {
            test.oneRun();
        }
        test.slipsAll();
        for (int i = 1; i < test.refused.length; i++) {
            test.check.holds("the refusal " + -i + " comes often", test.refused[i] > 500);
        }
        test.check.end();
    }

    private void slipsAll() {
        for (int q = -1; q <= 11; q++) {
            x = new GoldTouch();
            o = new Oracle();
            for (int n = -1; n <= 5; n++) {
                for (int k = -1; k <= 7; k++) {
                    for (int part = -1; part <= 2; part++) {
                        same("slips", x.slips(q, n, k, part), o.slips(q, n, k, part), q, n, k, part);
                    }
                }
            }
        }
    }

    private void oneRun() {
        x = new GoldTouch();
        o = new Oracle();
        calls = 0;
        while (calls < CALLS - 260 && !check.isWrong()) {
            tell(chance.nextInt(4) == 0 ? brokenText() : fairText());
            int more = 20 + chance.nextInt(150);
            int mode = chance.nextInt(3);
            for (int i = 0; i < more && calls < CALLS && !check.isWrong(); i++) {
                if (mode != 0 && chance.nextInt(mode == 1 ? 2 : 4) == 0) deed();
                else anyCall();
            }
        }
    }

    private void same(String call, long got, long want, int... with) {
        calls++;
        if (want < 0 && want > -6) refused[(int) -want]++;
        if (got == want) {
            check.due(call, got, want);
            return;
        }
        StringBuilder told = new StringBuilder("run " + run + ", call " + calls + ": " + call);
        for (int w : with) told.append(' ').append(w);
        check.due(told.toString(), got, want);
    }

    private void tell(String text) {
        if (chance.nextInt(5) != 0) same("erase", x.erase(), o.erase());
        for (int i = 0; i < text.length() && i < 165; i++) {
            int letter = text.charAt(i);
            same("write", x.write(letter), o.write(letter), letter);
            if (chance.nextInt(12) == 0) same("fault", x.fault(), o.fault());
        }
        same("fault of " + text, x.fault(), o.fault());
        same("court of " + text, x.court(), o.court());
        same("count", x.count(0), o.count(0), 0);
    }

    private String thingText(int weight) {
        int floor = chance.nextInt(3) == 0 ? chance.nextInt(3) : 0;
        return KINDS[chance.nextInt(5)] + " " + (1 + chance.nextInt(weight)) + " " + chance.nextInt(41) + " " + floor;
    }

    private String fairText() {
        StringBuilder text = new StringBuilder(chance.nextInt(4) == 0 ? "wash " + chance.nextInt(5) : "court");
        int things = chance.nextInt(9);
        int weight = chance.nextBoolean() ? 20 : 6;
        for (int i = 0; i < things; i++) text.append(';').append(thingText(weight));
        if (chance.nextInt(3) != 0) text.append(";wash ").append(chance.nextInt(5));
        if (chance.nextInt(3) != 0) text.append(";chill ").append(chance.nextInt(5));
        if (chance.nextInt(3) != 0) text.append(";noon ").append(chance.nextInt(25));
        for (int f = 0; f < 2; f++) {
            if (chance.nextBoolean()) text.append(";bears ").append(f).append(' ').append(chance.nextInt(100));
        }
        return text.toString();
    }

    private String brokenText() {
        if (chance.nextInt(4) == 0) return manyClauses();
        StringBuilder text = new StringBuilder(fairText());
        String odd = " ;;  0123456789abdeorst-A\t" + (char) 0 + (char) 233;
        for (int i = 1 + chance.nextInt(2); i > 0; i--) {
            int at = chance.nextInt(text.length());
            char letter = odd.charAt(chance.nextInt(odd.length()));
            int how = chance.nextInt(4);
            if (how == 0) text.setCharAt(at, letter);
            else if (how == 1) text.insert(at, letter);
            else if (how == 2 && text.length() > 1) text.deleteCharAt(at);
            else text.append(' ').append(letter);
        }
        return text.toString();
    }

    private String manyClauses() {
        StringBuilder text = new StringBuilder("bare");
        int more = 11 + chance.nextInt(5);
        for (int i = 0; i < more; i++) {
            text.append(chance.nextInt(6) == 0 ? " ; " : ";").append(chance.nextInt(4) == 0 ? "bare" : "dead 1 2 0");
        }
        return text.toString();
    }

    private int wild() {
        int[] all = {Integer.MIN_VALUE, Integer.MAX_VALUE, -6, 31, 32, 33, 64, 255, 256, 1 << 30};
        return all[chance.nextInt(all.length)];
    }

    private int aThing() {
        if (chance.nextInt(60) == 0) return wild();
        return chance.nextInt(12) == 0 ? chance.nextInt(12) - 2 : chance.nextInt(8);
    }

    private int aWhat(int most) {
        if (chance.nextInt(60) == 0) return wild();
        return chance.nextInt(10) == 0 ? chance.nextInt(most + 4) - 2 : chance.nextInt(most + 1);
    }

    private void deed() {
        int a = aThing();
        int b = chance.nextInt(3) == 0 ? -1 : aThing();
        switch (chance.nextInt(8)) {
            case 0: case 1: same("touch", x.touch(a), o.touch(a), a); break;
            case 2: same("by", x.by(a, b), o.by(a, b), a, b); break;
            case 3: case 4: same("eat", x.eat(a, b), o.eat(a, b), a, b); break;
            case 5: case 6: same("bathe", x.bathe(), o.bathe()); break;
            default: same("idle", x.idle(), o.idle());
        }
    }

    private void anyCall() {
        if (chance.nextInt(4) == 0) stateCall();
        else if (chance.nextInt(3) == 0) rowCall();
        else foretellingCall();
    }

    private void stateCall() {
        int a = aThing();
        int w = aWhat(6);
        switch (chance.nextInt(8)) {
            case 0: same("thing", x.thing(a, w), o.thing(a, w), a, w); break;
            case 1: same("as", x.as(a, w), o.as(a, w), a, w); break;
            case 2: case 3: {
                int f = aWhat(2);
                int what = aWhat(3);
                same("floor", x.floor(f, what), o.floor(f, what), f, what);
                break;
            }
            case 4: {
                int minute = chance.nextInt(4) == 0 ? chance.nextInt(110) - 5 : chance.nextInt(30);
                same("hand", x.hand(minute), o.hand(minute), minute);
                break;
            }
            default: {
                int what = aWhat(12);
                same("count", x.count(what), o.count(what), what);
            }
        }
    }

    private void rowCall() {
        int a = aThing();
        int k = aWhat(1);
        switch (chance.nextInt(24)) {
            case 0: case 1: case 2: same("undo", x.undo(), o.undo()); break;
            case 3: case 4: same("keep", x.keep(k), o.keep(k), k); break;
            case 5: same("back", x.back(k), o.back(k), k); break;
            case 6: case 7: case 8: case 9: case 10: same("put", x.put(a), o.put(a), a); break;
            case 11: same("wipe", x.wipe(), o.wipe()); break;
            case 12: case 13: case 14: case 15: case 16: same("task", x.task(a), o.task(a), a); break;
            case 17: same("drop", x.drop(), o.drop()); break;
            case 18: same("forget", x.forget(), o.forget()); break;
            default: {
                int minute = chance.nextInt(4) == 0 ? chance.nextInt(28) - 2 : chance.nextInt(6);
                int gold = aWhat(1);
                same("look", x.look(a, minute, gold), o.look(a, minute, gold), a, minute, gold);
            }
        }
    }

    private void foretellingCall() {
        int a = aThing();
        int w = aWhat(1);
        switch (chance.nextInt(11)) {
            case 0: {
                int g = chance.nextInt(3) == 0 ? chance.nextInt(12) - 1 : chance.nextInt(3);
                same("town", x.town(g, w), o.town(g, w), g, w);
                break;
            }
            case 1: case 2: same("goes", x.goes(w), o.goes(w), w); break;
            case 3: case 4: case 5: {
                int what = aWhat(2);
                same("plan", x.plan(what), o.plan(what), what);
                break;
            }
            case 6: {
                int minute = chance.nextInt(40) == 0 ? wild() : chance.nextInt(28) - 1;
                same("price", x.price(minute), o.price(minute), minute);
                break;
            }
            case 7: same("sell", x.sell(w), o.sell(w), w); break;
            case 8: {
                int what = aWhat(2);
                same("thief", x.thief(what), o.thief(what), what);
                break;
            }
            case 9: same("fit", x.fit(a), o.fit(a), a); break;
            default: {
                int set = chance.nextInt(4096) & chance.nextInt(4096) & chance.nextInt(4096);
                if (chance.nextInt(10) == 0) set = chance.nextInt(4200) - 50;
                if (chance.nextInt(40) == 0) set = wild();
                same("baths", x.baths(set, w), o.baths(set, w), set, w);
            }
        }
    }
}
