import java.util.ArrayList;
import java.util.HashMap;
import java.util.List;
import java.util.Map;
import java.util.regex.Matcher;
import java.util.regex.Pattern;

/**
 * The document once more, as slow and as literal as can be: all that deeds did is
 * found by doing them all again, and what is foretold by trying all there is.
 */
final class Oracle {
    private static final int NONE = -1, UNKNOWN = -2, OUTSIDE = -3, NOT = -4, FULL = -5;
    private static final String[] KINDS = {"dead", "tool", "gate", "being", "food"};

    private record Thing(int kind, int weight, int worth, int floor) { }

    private enum Sort { TOUCH, BY, EAT, BATHE, REST }

    /** What: the thing, the tool (NONE: by hand). */
    private record Deed(Sort sort, int thing, int tool) { }

    private record Seen(int thing, int minute, int gold) { }

    /** Terms that a text can change. */
    private static final class Told {
        List<Thing> things = new ArrayList<>();
        int[] bears = {99, 99, 99};
        int wash = 3, chill = 2, noon = 12;

        Told copy() {
            Told other = new Told();
            other.things = new ArrayList<>(things);
            other.bears = bears.clone();
            other.wash = wash;
            other.chill = chill;
            other.noon = noon;
            return other;
        }
    }

    /** How all stands in one minute. */
    private static final class Stand {
        int minute;
        List<Integer> baths = new ArrayList<>();
        int[] gold = new int[8];
        boolean[] eaten = new boolean[8];
        boolean[] broken = new boolean[3];
        int answer;
    }

    private Told told = new Told();
    private String text = "";
    private List<Deed> deeds = new ArrayList<>();
    private int undoable;
    private final Map<Integer, List<Deed>> kept = new HashMap<>();
    private final List<Integer> row = new ArrayList<>();
    private final List<Integer> tasks = new ArrayList<>();
    private final List<Seen> seen = new ArrayList<>();
    private int clausesRead;

    // ---- what is told

    int write(int letter) {
        if (letter < 0 || letter > 255) return OUTSIDE;
        if (text.length() == 160) return FULL;
        text += (char) letter;
        return text.length();
    }

    int erase() {
        int had = text.length();
        text = "";
        return had;
    }

    int fault() {
        return read(told.copy());
    }

    int court() {
        Told next = told.copy();
        if (read(next) != NONE) return NOT;
        told = next;
        text = "";
        deeds.clear();
        undoable = 0;
        kept.clear();
        row.clear();
        tasks.clear();
        seen.clear();
        return clausesRead;
    }

    private static int[][] bounds(String word) {
        switch (word) {
            case "court": case "bare": return new int[][] {};
            case "wash": case "chill": return new int[][] {{0, 4}};
            case "noon": return new int[][] {{0, 24}};
            case "bears": return new int[][] {{0, 2}, {0, 99}};
            case "dead": case "tool": case "gate": case "being": case "food":
                return new int[][] {{1, 20}, {0, 40}, {0, 2}};
            default: return null;
        }
    }

    private int read(Told to) {
        List<String> tokens = new ArrayList<>();
        List<Integer> places = new ArrayList<>();
        Matcher m = Pattern.compile("[a-z]+|[0-9]+|[^ ]", Pattern.DOTALL).matcher(text);
        while (m.find()) {
            tokens.add(m.group());
            places.add(m.start());
        }
        tokens.add("");
        places.add(text.length());
        clausesRead = 0;
        int at = 0;
        while (true) {
            String word = tokens.get(at);
            int[][] bounds = bounds(word);
            if (bounds == null) return places.get(at);
            if (bounds.length == 3 && to.things.size() == 8) return places.get(at);
            int[] n = new int[3];
            for (int i = 0; i < bounds.length; i++) {
                at++;
                if (!tokens.get(at).matches("[0-9]{1,2}")) return places.get(at);
                n[i] = Integer.parseInt(tokens.get(at));
                if (n[i] < bounds[i][0] || n[i] > bounds[i][1]) return places.get(at);
            }
            obey(to, word, n);
            clausesRead++;
            at++;
            if (at == tokens.size() - 1) return NONE;
            if (!tokens.get(at).equals(";") || clausesRead == 14) return places.get(at);
            at++;
        }
    }

    private static void obey(Told to, String word, int[] n) {
        switch (word) {
            case "court":
                Told first = new Told();
                to.things = first.things;
                to.bears = first.bears;
                to.wash = first.wash;
                to.chill = first.chill;
                to.noon = first.noon;
                break;
            case "bare": to.things.clear(); break;
            case "wash": to.wash = n[0]; break;
            case "chill": to.chill = n[0]; break;
            case "noon": to.noon = n[0]; break;
            case "bears": to.bears[n[0]] = n[1]; break;
            default: to.things.add(new Thing(List.of(KINDS).indexOf(word), n[0], n[1], n[2]));
        }
    }

    // ---- how all stands

    private int handIn(List<Integer> baths, int minute) {
        int latest = -1000;
        for (int bath : baths) if (bath < minute && bath > latest) latest = bath;
        if (minute <= latest + told.wash) return 0;
        if (minute <= latest + told.wash + told.chill) return 1;
        return 2;
    }

    private void gild(Stand s, int thing) {
        int hand = handIn(s.baths, s.minute);
        if (hand == 2) s.gold[thing] = 2;
        if (hand == 1) s.gold[thing] = Math.max(s.gold[thing], s.minute < told.noon ? 1 : 2);
    }

    private int load(Stand s, int floor) {
        int sum = 0;
        for (int t = 0; t < told.things.size(); t++) {
            if (told.things.get(t).floor == floor) sum += weighs(s, t);
        }
        return sum;
    }

    private int weighs(Stand s, int t) {
        return s.eaten[t] ? 0 : (s.gold[t] > 0 ? 3 : 1) * told.things.get(t).weight;
    }

    private void step(Stand s, Deed deed) {
        switch (deed.sort) {
            case TOUCH: gild(s, deed.thing); s.answer = s.gold[deed.thing]; break;
            case BY: gild(s, deed.tool); s.answer = s.gold[deed.tool]; break;
            case EAT:
                gild(s, deed.tool == NONE ? deed.thing : deed.tool);
                s.eaten[deed.thing] = s.gold[deed.thing] == 0;
                s.answer = s.eaten[deed.thing] ? 1 : 0;
                break;
            case BATHE: s.baths.add(s.minute); s.answer = s.minute + 1; break;
            default: s.answer = s.minute + 1;
        }
        for (int f = 0; f < 3; f++) if (load(s, f) > told.bears[f]) s.broken[f] = true;
        s.minute++;
        if (s.minute == told.noon) {
            for (int t = 0; t < 8; t++) if (s.gold[t] == 1) s.gold[t] = 0;
        }
    }

    private Stand now() {
        Stand s = new Stand();
        for (Deed deed : deeds) step(s, deed);
        return s;
    }

    private boolean known(int thing) {
        return thing >= 0 && thing < told.things.size();
    }

    private boolean lost(Stand s, int thing) {
        return s.eaten[thing] || s.broken[told.things.get(thing).floor];
    }

    private int priceOf(Stand s, int t) {
        if (lost(s, t)) return 0;
        return s.gold[t] > 0 ? 3 * told.things.get(t).weight : told.things.get(t).worth;
    }

    private int prices(Stand s) {
        int sum = 0;
        for (int t = 0; t < told.things.size(); t++) sum += priceOf(s, t);
        return sum;
    }

    int thing(int thing, int what) {
        if (!known(thing)) return UNKNOWN;
        Stand s = now();
        Thing t = told.things.get(thing);
        int[] all = {t.kind, t.weight, t.worth, t.floor, s.gold[thing], s.eaten[thing] ? 1 : 0, priceOf(s, thing)};
        return what < 0 || what >= all.length ? OUTSIDE : all[what];
    }

    int as(int thing, int kind) {
        if (!known(thing)) return UNKNOWN;
        if (kind < 0 || kind > 5) return OUTSIDE;
        int own = told.things.get(thing).kind;
        boolean is = kind == 0 || kind == own + 1 || kind == 1 && own != 3;
        return is ? weighs(now(), thing) : NOT;
    }

    private int tool(Stand s, int floor) {
        if (s.broken[floor]) return NONE;
        int best = NONE;
        for (int t = 0; t < told.things.size(); t++) {
            Thing x = told.things.get(t);
            if (x.kind != 1 || x.floor != floor || tasks.contains(t)) continue;
            if (s.gold[t] == 2) return t;
        }
        for (int t = 0; t < told.things.size(); t++) {
            Thing x = told.things.get(t);
            if (x.kind != 1 || x.floor != floor || tasks.contains(t)) continue;
            if (best == NONE || x.weight < told.things.get(best).weight) best = t;
        }
        return best;
    }

    int floor(int floor, int what) {
        if (floor < 0 || floor > 2) return UNKNOWN;
        Stand s = now();
        int[] all = {told.bears[floor], load(s, floor), s.broken[floor] ? 1 : 0, tool(s, floor)};
        return what < 0 || what >= all.length ? OUTSIDE : all[what];
    }

    int hand(int minute) {
        return minute < 0 || minute > 99 ? OUTSIDE : handIn(now().baths, minute);
    }

    // ---- deeds

    private int act(Stand s, Deed deed) {
        if (s.minute == 24) return FULL;
        deeds.add(deed);
        undoable = Math.min(8, undoable + 1);
        return now().answer;
    }

    int touch(int thing) {
        if (!known(thing)) return UNKNOWN;
        Stand s = now();
        return lost(s, thing) ? NOT : act(s, new Deed(Sort.TOUCH, thing, NONE));
    }

    private boolean isToolFor(Stand s, int tool, int thing) {
        Thing x = told.things.get(tool);
        return x.kind == 1 && x.floor == told.things.get(thing).floor && !lost(s, tool) && !lost(s, thing);
    }

    int by(int tool, int thing) {
        if (!known(tool) || !known(thing) || tool == thing) return UNKNOWN;
        Stand s = now();
        return isToolFor(s, tool, thing) ? act(s, new Deed(Sort.BY, thing, tool)) : NOT;
    }

    int eat(int food, int tool) {
        if (!known(food) || tool != NONE && !known(tool) || tool == food) return UNKNOWN;
        Stand s = now();
        if (told.things.get(food).kind != 4 || lost(s, food)) return NOT;
        if (tool != NONE && !isToolFor(s, tool, food)) return NOT;
        return act(s, new Deed(Sort.EAT, food, tool));
    }

    int bathe() {
        return act(now(), new Deed(Sort.BATHE, NONE, NONE));
    }

    int idle() {
        return act(now(), new Deed(Sort.REST, NONE, NONE));
    }

    int undo() {
        if (undoable == 0) return NOT;
        deeds.remove(deeds.size() - 1);
        return --undoable;
    }

    int keep(int k) {
        if (k != 0 && k != 1) return UNKNOWN;
        kept.put(k, new ArrayList<>(deeds));
        return deeds.size();
    }

    int back(int k) {
        if (k != 0 && k != 1) return UNKNOWN;
        if (!kept.containsKey(k)) return NOT;
        deeds = new ArrayList<>(kept.get(k));
        undoable = 0;
        return deeds.size();
    }

    // ---- towns, floors

    int town(int g, int what) {
        if (g < 0 || g > 8 || what < 0 || what > 1) return OUTSIDE;
        int most = NONE, best = NONE;
        for (int set = 0; set < 1 << told.things.size(); set++) {
            Stand s = now();
            boolean fits = true;
            for (int t = 0; t < told.things.size(); t++) {
                if ((set >> t & 1) == 0) continue;
                fits = fits && s.gold[t] != 2 && !lost(s, t) && told.things.get(t).kind != 3;
                s.gold[t] = 2;
            }
            for (int f = 0; f < 3; f++) fits = fits && (s.broken[f] || load(s, f) <= told.bears[f]);
            int gates = 0;
            for (int t = 0; t < told.things.size(); t++) {
                if (told.things.get(t).kind == 2 && s.gold[t] == 0 && !lost(s, t)) gates++;
            }
            if (fits && gates >= g && prices(s) > most) {
                most = prices(s);
                best = set;
            }
        }
        return what == 0 ? most : best;
    }

    int put(int thing) {
        if (!known(thing)) return UNKNOWN;
        if (row.size() == 8) return FULL;
        row.add(thing);
        return row.size();
    }

    int wipe() {
        int had = row.size();
        row.clear();
        return had;
    }

    int goes(int what) {
        if (what < 0 || what > 1) return OUTSIDE;
        Stand s = now();
        for (int i = 0; i < row.size(); i++) {
            s.gold[row.get(i)] = 2;
            for (int f = 0; f < 3; f++) {
                if (!s.broken[f] && load(s, f) > told.bears[f]) return what == 0 ? i : f;
            }
        }
        return NONE;
    }

    // ---- tasks

    int task(int thing) {
        if (!known(thing)) return UNKNOWN;
        if (tasks.contains(thing)) return NOT;
        if (tasks.size() == 4) return FULL;
        tasks.add(thing);
        return tasks.size();
    }

    int drop() {
        int had = tasks.size();
        tasks.clear();
        return had;
    }

    /** A way's worth is cost * 100 + its last minute; rests and all tools are tried, in every minute up to 23. */
    int plan(int what) {
        if (what < 0 || what > 2) return OUTSIDE;
        if (tasks.isEmpty()) return what == 0 ? 0 : NONE;
        Stand s = now();
        for (int t : tasks) if (lost(s, t)) return NONE;
        int[] tools = {tool(s, 0), tool(s, 1), tool(s, 2)};
        int gold = 0;
        for (int t = 0; t < 8; t++) if (s.gold[t] == 2) gold |= 1 << t;
        int left = 0;
        for (int t : tasks) left |= 1 << t;
        int lastBath = -100;
        for (int b : s.baths) lastBath = Math.max(lastBath, b);
        Map<Long, Integer> memo = new HashMap<>();
        int best = way(memo, tools, s.minute, lastBath, left, gold);
        if (best >= 1_000_000) return NONE;
        if (what == 0) return best / 100;
        if (what == 1) return best % 100;
        for (int deed = 1; deed < 30; deed++) {
            if (wayBy(memo, deed, tools, s.minute, lastBath, left, gold) == best) return deed;
        }
        throw new IllegalStateException("a way has a first deed");
    }

    private int way(Map<Long, Integer> memo, int[] tools, int minute, int lastBath, int left, int gold) {
        if (left == 0) return minute - 1;
        if (minute > 23) return 1_000_000;
        int since = Math.min(20, minute - lastBath);
        long key = ((long) minute * 32 + since) * 65536 + left * 256 + gold;
        Integer known = memo.get(key);
        if (known != null) return known;
        int best = 1_000_000;
        for (int deed = 1; deed < 30; deed++) {
            best = Math.min(best, wayBy(memo, deed, tools, minute, lastBath, left, gold));
        }
        memo.put(key, best);
        return best;
    }

    private int wayBy(Map<Long, Integer> memo, int deed, int[] tools, int minute, int lastBath, int left, int gold) {
        if (minute > 23) return 1_000_000;
        if (deed == 1) return way(memo, tools, minute + 1, lastBath, left, gold);
        if (deed == 2) return way(memo, tools, minute + 1, minute, left, gold);
        int task = deed % 10;
        if (deed < 10 || task > 7 || (left >> task & 1) == 0) return 1_000_000;
        int hand = handIn(List.of(lastBath), minute);
        if (deed < 20) {
            return hand != 0 ? 1_000_000 : way(memo, tools, minute + 1, lastBath, left & ~(1 << task), gold);
        }
        int tool = tools[told.things.get(task).floor];
        if (tool == NONE) return 1_000_000;
        boolean forEver = hand == 2 || hand == 1 && minute >= told.noon;
        int more = forEver && (gold >> tool & 1) == 0 ? told.things.get(tool).weight : 0;
        int then = way(memo, tools, minute + 1, lastBath, left & ~(1 << task), forEver ? gold | 1 << tool : gold);
        return Math.min(1_000_000, then + 100 * more);
    }

    // ---- prices, thieves

    int price(int minute) {
        Stand s = now();
        if (minute < s.minute || minute > 24) return OUTSIDE;
        while (s.minute < minute) step(s, new Deed(Sort.REST, NONE, NONE));
        return prices(s);
    }

    int sell(int what) {
        if (what < 0 || what > 1) return OUTSIDE;
        int best = now().minute;
        for (int m = best; m <= 24; m++) if (price(m) > price(best)) best = m;
        return what == 0 ? best : price(best);
    }

    private int gain(Stand s, int thing, int guard) {
        Thing t = told.things.get(thing);
        if (s.eaten[thing] || t.floor == guard) return 0;
        return Math.max(0, 3 * t.weight - priceOf(s, thing));
    }

    int thief(int what) {
        if (what < 0 || what > 2) return OUTSIDE;
        Stand s = now();
        List<int[]> rests = new ArrayList<>();
        for (int t = 0; t < told.things.size(); t++) {
            for (int f = 0; f < 3; f++) {
                int best = 0, least = 1000;
                for (int u = 0; u < told.things.size(); u++) best = Math.max(best, gain(s, u, f));
                for (int e = 0; e < 3; e++) least = Math.min(least, gain(s, t, e));
                if (gain(s, t, f) == best && gain(s, t, f) == least) rests.add(new int[] {t, f});
            }
        }
        if (what == 0) return rests.size();
        return rests.isEmpty() ? NONE : rests.get(0)[what - 1];
    }

    // ---- what was seen, baths, slips

    int look(int thing, int minute, int gold) {
        if (!known(thing)) return UNKNOWN;
        if (minute < 0 || minute >= deeds.size() || gold != 0 && gold != 1) return OUTSIDE;
        if (seen.size() == 6) return FULL;
        seen.add(new Seen(thing, minute, gold));
        return seen.size();
    }

    int forget() {
        int had = seen.size();
        seen.clear();
        return had;
    }

    /** A day with this one touch alone is gone through, minute by minute. */
    private boolean fits(int thing, int touched) {
        Stand s = new Stand();
        s.baths = now().baths;
        int[] was = new int[24];
        for (int m = 0; m < 24; m++) {
            s.minute = m;
            if (m == told.noon && s.gold[0] == 1) s.gold[0] = 0;
            if (m == touched) gild(s, 0);
            was[m] = s.gold[0] > 0 ? 1 : 0;
        }
        for (Seen x : seen) if (x.thing == thing && was[x.minute] != x.gold) return false;
        return true;
    }

    int fit(int thing) {
        if (!known(thing)) return UNKNOWN;
        int bits = 0;
        for (int m = 0; m < deeds.size(); m++) if (fits(thing, m)) bits |= 1 << m;
        if (fits(thing, NONE)) bits |= 1 << 24;
        return bits;
    }

    int baths(int set, int what) {
        if (set < 0 || set > 4095 || what < 0 || what > 1) return OUTSIDE;
        Stand s = now();
        int best = NONE;
        for (int bathed = 0; bathed < 4096; bathed++) {
            if ((bathed & set) != 0) continue;
            List<Integer> all = new ArrayList<>(s.baths);
            for (int i = 0; i < 12; i++) if ((bathed >> i & 1) == 1) all.add(s.minute + i);
            boolean clean = true;
            for (int i = 0; i < 12; i++) {
                if ((set >> i & 1) == 1 && handIn(all, s.minute + i) != 0) clean = false;
            }
            if (clean && (best == NONE || Integer.bitCount(bathed) < Integer.bitCount(best))) best = bathed;
        }
        return what == 1 || best == NONE ? best : Integer.bitCount(best);
    }

    /** Each of the 10^n ways in which n tenths can fall is counted. */
    long slips(int q, int n, int k, int part) {
        if (q < 0 || q > 10 || n < 0 || n > 6 || k < 0 || k > 6 || part < 0 || part > 1) return OUTSIDE;
        long all = 1;
        for (int i = 0; i < n; i++) all *= 10;
        long good = 0;
        for (long way = 0; way < all; way++) {
            int slipped = 0;
            long rest = way;
            for (int i = 0; i < n; i++) {
                if (rest % 10 < q) slipped++;
                rest /= 10;
            }
            if (slipped <= k) good++;
        }
        for (long d : new long[] {2, 5}) {
            while (good % d == 0 && all % d == 0) {
                good /= d;
                all /= d;
            }
        }
        return part == 0 ? good : all;
    }

    int count(int what) {
        Stand s = now();
        int gold = 0, eaten = 0, broken = 0;
        for (int t = 0; t < 8; t++) {
            if (s.gold[t] > 0) gold |= 1 << t;
            if (s.eaten[t]) eaten |= 1 << t;
        }
        for (int f = 0; f < 3; f++) if (s.broken[f]) broken |= 1 << f;
        int[] all = {told.things.size(), told.wash, told.chill, told.noon, s.minute, gold, eaten, broken,
            row.size(), tasks.size(), seen.size(), undoable, text.length()};
        return what < 0 || what >= all.length ? OUTSIDE : all[what];
    }
}
