import java.util.ArrayList;
import java.util.Arrays;
import java.util.HashMap;
import java.util.HashSet;
import java.util.List;
import java.util.Map;
import java.util.Set;
import java.util.TreeMap;

/**
 * The document once more, as slow and as plain as can be and by other ways than the class goes: an Earley recogniser
 * for SYNTAX, laws worked out on their tokens, throws counted out one by one. CompareTest holds the two together.
 */
final class NaiveJuggler {
    static final class Token {
        String sort;
        String word;
        int place;
        int number;
    }

    static final class Thing implements Cloneable {
        int weight;
        int edge;
        int where;
        int landsAt;
        int catches;

        Thing same() {
            try {
                return (Thing) clone();
            } catch (CloneNotSupportedException e) {
                throw new IllegalStateException(e);
            }
        }
    }

    static final class World {
        List<Thing> things = new ArrayList<>();
        int beat;
        int tired;
        int dropped;
        int caught;
        int earned;
        int inUse = -1;
        int since;
        int byHand = -1;
        int inHand;
        int inForce;

        World same() {
            World w = new World();
            for (Thing t : things) {
                w.things.add(t.same());
            }
            w.beat = beat;
            w.tired = tired;
            w.dropped = dropped;
            w.caught = caught;
            w.earned = earned;
            w.inUse = inUse;
            w.since = since;
            w.byHand = byHand;
            return w;
        }

        List<Integer> landing() {
            List<Integer> found = new ArrayList<>();
            for (int i = 0; i < things.size(); i++) {
                if (things.get(i).where == 0 && things.get(i).landsAt == beat) {
                    found.add(i);
                }
            }
            return found;
        }

        int bits(int where) {
            int bits = 0;
            for (int i = 0; i < things.size(); i++) {
                if (things.get(i).where == where) {
                    bits += 1 << i;
                }
            }
            return bits;
        }

        int up() {
            int up = 0;
            for (Thing t : things) {
                up += t.where == 0 ? 1 : 0;
            }
            return up;
        }
    }

    static final class DividedByZero extends Exception {
        private static final long serialVersionUID = 1L;
    }

    private static final List<String> WORDS = List.of("thing", "pattern", "tires", "drops", "force", "pays", "rests",
            "seed", "if", "then", "else", "weight", "edge", "height", "beat", "tired", "up", "which", "caught", "hand");
    private static final List<String> LAW_NAMES = List.of("tires", "drops", "force", "pays");
    private static final String[] RULES = {
        "text", "text tells", "tells", "tells tell tells",
        "tell thing NAME INT INT INT ;", "tell pattern NAME INT ints ;", "ints", "ints INT ints",
        "tell lawname = ifs e ;", "lawname tires", "lawname drops", "lawname force", "lawname pays",
        "tell rests INT ;", "tell seed INT ;", "ifs", "ifs if e < e then e else ifs",
        "e part", "e e + part", "e e - part", "part unit", "part part * unit", "part part / unit",
        "unit INT", "unit ( e )", "unit weight", "unit edge", "unit height", "unit beat", "unit tired", "unit up",
        "unit which", "unit caught", "unit hand"};

    private final List<Byte> tape = new ArrayList<>();
    private int place = -1;
    private World now = new World();
    private List<List<Integer>> patterns = new ArrayList<>();
    private Map<String, List<Token>> laws = new HashMap<>();
    private int rests = 1;
    private int seed = 0;
    private List<World> past = new ArrayList<>();
    private final World[] slots = new World[3];
    private final List<int[]> told = new ArrayList<>();

    // ---- the tape

    int feed(int a, int b, int c, int d, int e) {
        if (tape.size() + 20 > 2000) {
            return -1;
        }
        for (int word : new int[] {a, b, c, d, e}) {
            for (byte one : java.nio.ByteBuffer.allocate(4).putInt(word).array()) {
                tape.add(one);
            }
        }
        return tape.size();
    }

    int back(int n) {
        if (n < 0 || n > tape.size()) {
            return -1;
        }
        for (int i = 0; i < n; i++) {
            tape.remove(tape.size() - 1);
        }
        return tape.size();
    }

    int place() {
        return place;
    }

    private List<Token> tokens() {
        StringBuilder all = new StringBuilder();
        for (byte one : tape) {
            all.append((char) (one & 255));
        }
        List<Token> found = new ArrayList<>();
        java.util.regex.Matcher m = java.util.regex.Pattern.compile("[a-z]+|[0-9]+|[^\\t\\n\\r ]",
                java.util.regex.Pattern.DOTALL).matcher(all);
        while (m.find()) {
            Token t = new Token();
            t.word = m.group();
            t.place = m.start();
            if (t.word.matches("[a-z]+")) {
                t.sort = WORDS.contains(t.word) ? t.word : t.word.length() <= 8 ? "NAME" : "none";
            } else if (t.word.matches("[0-9]+")) {
                t.sort = t.word.length() <= 4 ? "INT" : "none";
                t.number = t.word.length() <= 4 ? Integer.parseInt(t.word) : 0;
            } else {
                t.sort = t.word.matches("[-;=+*/<()]") ? t.word : "none";
            }
            found.add(t);
        }
        return found;
    }

    int read() {
        List<Token> tokens = tokens();
        int length = tape.size();
        tape.clear();
        TreeMap<Integer, Integer> faults = new TreeMap<>();
        syntax(tokens, length, faults);
        roomFaults(tokens, faults);
        if (faults.isEmpty()) {
            sense(tokens, faults);
        }
        if (!faults.isEmpty()) {
            place = faults.firstKey();
            return faults.get(place);
        }
        place = -1;
        take(tokens);
        return 0;
    }

    /** Earley: the first token with which no state goes on. */
    private static void syntax(List<Token> tokens, int length, TreeMap<Integer, Integer> faults) {
        List<String[]> rules = new ArrayList<>();
        Set<String> heads = new HashSet<>();
        for (String rule : RULES) {
            rules.add(rule.split(" "));
            heads.add(rule.split(" ")[0]);
        }
        List<List<List<Integer>>> sets = new ArrayList<>();
        List<List<Integer>> set = new ArrayList<>(List.of(List.of(1, 0, 0)));
        for (int at = 0; ; at++) {
            close(rules, heads, sets, set, at);
            sets.add(set);
            List<List<Integer>> next = new ArrayList<>();
            boolean whole = false;
            for (List<Integer> item : set) {
                String[] rule = rules.get(item.get(0));
                if (item.get(1) + 1 < rule.length) {
                    if (at < tokens.size() && rule[item.get(1) + 1].equals(tokens.get(at).sort)) {
                        next.add(List.of(item.get(0), item.get(1) + 1, item.get(2)));
                    }
                } else {
                    whole |= rule[0].equals("text");
                }
            }
            if (at == tokens.size()) {
                if (!whole) {
                    faults.merge(length, 1, Math::min);
                }
                return;
            }
            if (next.isEmpty()) {
                faults.merge(tokens.get(at).place, 1, Math::min);
                return;
            }
            set = next;
        }
    }

    private static void close(List<String[]> rules, Set<String> heads, List<List<List<Integer>>> sets,
            List<List<Integer>> set, int at) {
        Set<List<Integer>> seen = new HashSet<>(set);
        boolean grown = true;
        while (grown) {
            grown = false;
            for (int i = 0; i < set.size(); i++) {
                List<Integer> item = set.get(i);
                String[] rule = rules.get(item.get(0));
                List<List<Integer>> more = new ArrayList<>();
                if (item.get(1) + 1 < rule.length) {
                    String wanted = rule[item.get(1) + 1];
                    for (int r = 0; heads.contains(wanted) && r < rules.size(); r++) {
                        if (rules.get(r)[0].equals(wanted)) {
                            more.add(List.of(r, 0, at));
                        }
                    }
                } else {
                    for (List<Integer> open : new ArrayList<>(item.get(2) == at ? set : sets.get(item.get(2)))) {
                        String[] waiting = rules.get(open.get(0));
                        if (open.get(1) + 1 < waiting.length && waiting[open.get(1) + 1].equals(rule[0])) {
                            more.add(List.of(open.get(0), open.get(1) + 1, open.get(2)));
                        }
                    }
                }
                for (List<Integer> one : more) {
                    if (seen.add(one)) {
                        set.add(one);
                        grown = true;
                    }
                }
            }
        }
    }

    private static void roomFaults(List<Token> tokens, TreeMap<Integer, Integer> faults) {
        if (tokens.size() > 400) {
            faults.merge(tokens.get(400).place, 2, Math::min);
        }
        int things = 0;
        int inRow = 0;
        int heights = 0;
        int ifs = 0;
        int open = 0;
        boolean pattern = false;
        for (Token t : tokens) {
            if (t.sort.equals("thing") || t.sort.equals("pattern")) {
                pattern = t.sort.equals("pattern");
                things += pattern ? 0 : 1;
                inRow += pattern ? 1 : 0;
                heights = 0;
                if (!pattern && things > 7 || pattern && inRow > 5) {
                    faults.merge(t.place, 2, Math::min);
                }
            }
            heights += t.sort.equals("INT") ? 1 : 0;
            ifs = t.sort.equals("=") ? 0 : t.sort.equals("if") ? ifs + 1 : ifs;
            open += t.sort.equals("(") ? 1 : t.sort.equals(")") ? -1 : 0;
            if (t.sort.equals(";")) {
                pattern = false;
            }
            if (t.sort.equals("INT") && pattern && heights > 8 || t.sort.equals("if") && ifs > 4
                    || t.sort.equals("(") && open > 6) {
                faults.merge(t.place, 2, Math::min);
            }
        }
    }

    private static void sense(List<Token> tokens, TreeMap<Integer, Integer> faults) {
        Set<String> names = new HashSet<>();
        String tell = "";
        int behind = 0;
        for (int i = 0; i < tokens.size(); i++) {
            Token t = tokens.get(i);
            if (i == 0 || tokens.get(i - 1).sort.equals(";")) {
                tell = t.sort;
                behind = 0;
            }
            if (t.sort.equals("NAME") && !names.add(t.word)) {
                faults.merge(t.place, 3, Math::min);
            }
            if (t.sort.equals("INT")) {
                int most = tell.equals("thing") || tell.equals("pattern") ? 9 : tell.equals("rests") ? 99 : 9999;
                int least = tell.equals("thing") && behind == 0 ? 1 : 0;
                behind++;
                if (t.number < least || t.number > most) {
                    faults.merge(t.place, 5, Math::min);
                }
            }
        }
    }

    private void take(List<Token> tokens) {
        now = new World();
        patterns = new ArrayList<>();
        laws = new HashMap<>();
        rests = 1;
        seed = 0;
        past = new ArrayList<>();
        Arrays.fill(slots, null);
        told.clear();
        List<Token> tell = new ArrayList<>();
        for (Token t : tokens) {
            if (!t.sort.equals(";")) {
                tell.add(t);
                continue;
            }
            String sort = tell.get(0).sort;
            if (sort.equals("thing")) {
                Thing thing = new Thing();
                thing.weight = tell.get(2).number;
                thing.edge = tell.get(3).number;
                thing.landsAt = tell.get(4).number;
                now.things.add(thing);
            } else if (sort.equals("pattern")) {
                List<Integer> row = new ArrayList<>();
                for (Token height : tell.subList(2, tell.size())) {
                    row.add(height.number);
                }
                patterns.add(row);
            } else if (sort.equals("rests")) {
                rests = tell.get(1).number;
            } else if (sort.equals("seed")) {
                seed = tell.get(1).number;
            } else {
                laws.put(sort, new ArrayList<>(tell.subList(2, tell.size())));
            }
            tell.clear();
        }
        now.inUse = patterns.isEmpty() ? -1 : 0;
    }

    // ---- laws

    private int law(World w, int law, int thing, int height, int up) {
        Map<String, Integer> vars = new HashMap<>();
        Thing t = w.things.get(thing);
        vars.put("weight", t.weight);
        vars.put("edge", t.edge);
        vars.put("height", law >= 2 ? 0 : height);
        vars.put("beat", w.beat);
        vars.put("tired", w.tired);
        vars.put("up", up);
        vars.put("which", thing);
        vars.put("caught", w.caught);
        vars.put("hand", w.beat % 2);
        int value = law == 2 ? t.edge : 0;
        List<Token> body = laws.get(LAW_NAMES.get(law));
        if (body != null) {
            try {
                value = whole(new ArrayList<>(body), vars);
            } catch (DividedByZero e) {
                value = 0;
            }
        }
        int low = law == 2 ? -99 : 0;
        int high = law == 1 ? 100 : 99;
        return value < low ? low : value > high ? high : value;
    }

    private static List<Token> upTo(List<Token> body, String sort) {
        List<Token> found = new ArrayList<>();
        while (!body.get(0).sort.equals(sort)) {
            found.add(body.remove(0));
        }
        body.remove(0);
        return found;
    }

    private static int whole(List<Token> body, Map<String, Integer> vars) throws DividedByZero {
        while (body.get(0).sort.equals("if")) {
            body.remove(0);
            int left = sum(upTo(body, "<"), vars);
            int right = sum(upTo(body, "then"), vars);
            List<Token> value = upTo(body, "else");
            if (left < right) {
                return sum(value, vars);
            }
        }
        return sum(body, vars);
    }

    /** The last + or - that stands in no brackets parts the sum; then the last * or /. */
    private static int sum(List<Token> e, Map<String, Integer> vars) throws DividedByZero {
        for (String signs : new String[] {"+-", "*/"}) {
            int open = 0;
            for (int i = e.size() - 1; i > 0; i--) {
                String sort = e.get(i).sort;
                open += sort.equals(")") ? 1 : sort.equals("(") ? -1 : 0;
                if (open == 0 && sort.length() == 1 && signs.contains(sort)) {
                    int left = sum(e.subList(0, i), vars);
                    int right = sum(e.subList(i + 1, e.size()), vars);
                    if (sort.equals("/") && right == 0) {
                        throw new DividedByZero();
                    }
                    long value = sort.equals("+") ? (long) left + right : sort.equals("-") ? (long) left - right
                            : sort.equals("*") ? (long) left * right : (long) left / right;
                    return (int) value;
                }
            }
        }
        if (e.size() > 1) {
            return sum(e.subList(1, e.size() - 1), vars);
        }
        return e.get(0).sort.equals("INT") ? e.get(0).number : vars.get(e.get(0).sort);
    }

    private static int lot(int n, int seed, int which) {
        int h = seed;
        for (int it : new int[] {125, which}) {
            h = (int) ((long) (h ^ it) * 1103515245L + 12345L);
            h = h ^ (int) ((h & 0xffffffffL) >> 15);
        }
        return (int) (((h & 0xffffffffL) >> 1) % n);
    }

    // ---- beats

    private int height(World w) {
        if (w.byHand >= 0) {
            return w.byHand;
        }
        return w.inUse < 0 ? 3 : patterns.get(w.inUse).get((w.beat - w.since) % patterns.get(w.inUse).size());
    }

    private void beat(World w, boolean drops, int bySeed) {
        List<Integer> landing = w.landing();
        w.inHand = -2;
        w.inForce = 0;
        if (landing.isEmpty()) {
            w.tired = w.tired < rests ? 0 : w.tired - rests;
        } else {
            int first = landing.get(0);
            for (int other : landing.subList(1, landing.size())) {
                w.things.get(other).where = 2;
                w.dropped++;
            }
            int height = height(w);
            int up = w.up();
            w.inHand = first;
            w.inForce = law(w, 2, first, 0, up);
            Thing t = w.things.get(first);
            if (drops && lot(100, bySeed, 4 * w.beat) < law(w, 1, first, height, up)) {
                t.where = 2;
                w.dropped++;
            } else {
                int paid = law(w, 3, first, 0, up);
                int tires = law(w, 0, first, height, up);
                w.earned += paid;
                w.tired = w.tired + tires > 999 ? 999 : w.tired + tires;
                w.caught++;
                t.catches++;
                t.landsAt = w.beat + height;
                t.where = height == 0 ? 1 : 0;
            }
        }
        w.beat++;
        w.byHand = -1;
    }

    private World gone(int n, boolean drops, int bySeed) {
        World w = now.same();
        for (int i = 0; i < n; i++) {
            beat(w, drops, bySeed);
        }
        return w;
    }

    // ---- what stands

    int thing(int thing, int what) {
        if (thing < 0 || thing >= now.things.size() || what < 0 || what > 4) {
            return -1;
        }
        Thing t = now.things.get(thing);
        return List.of(t.weight, t.edge, t.where, t.where == 0 ? t.landsAt - now.beat : -2, t.catches).get(what);
    }

    int pattern(int pattern, int i) {
        if (pattern < 0 || pattern >= patterns.size() || i < -1 || i >= patterns.get(pattern).size()) {
            return -1;
        }
        return i == -1 ? patterns.get(pattern).size() : patterns.get(pattern).get(i);
    }

    int tells(int thing, int height, int what) {
        if (thing < 0 || thing >= now.things.size() || what < 0 || what > 3
                || what < 2 && (height < 0 || height > 9)) {
            return -100;
        }
        return law(now, what, thing, height, now.up());
    }

    int count(int what) {
        int weightUp = 0;
        int weightDropped = 0;
        for (Thing t : now.things) {
            weightUp += t.where == 0 ? t.weight : 0;
            weightDropped += t.where == 2 ? t.weight : 0;
        }
        int held = 0;
        for (World slot : slots) {
            held += slot == null ? 0 : 1;
        }
        int[] all = {now.things.size(), patterns.size(), now.beat, now.tired, now.bits(0), now.bits(2), now.dropped,
            now.caught, now.earned, now.inUse < 0 ? -2 : now.inUse, height(now), tape.size(), past.size(), told.size(),
            held, weightUp, weightDropped, now.bits(1)};
        return what < 0 || what >= all.length ? -1 : all[what];
    }

    // ---- things done

    private void remember() {
        past.add(now.same());
        if (past.size() > 40) {
            past.remove(0);
        }
    }

    boolean throwIn(int thing, int n) {
        if (thing < 0 || thing >= now.things.size() || n < 0 || n > 9 || now.things.get(thing).where == 0) {
            return false;
        }
        remember();
        now.things.get(thing).where = 0;
        now.things.get(thing).landsAt = now.beat + n;
        return true;
    }

    boolean use(int pattern) {
        if (pattern < 0 || pattern >= patterns.size()) {
            return false;
        }
        remember();
        now.inUse = pattern;
        now.since = now.beat;
        return true;
    }

    boolean set(int height) {
        if (height < 0 || height > 9 || now.byHand == height) {
            return false;
        }
        remember();
        now.byHand = height;
        return true;
    }

    int beats(int n) {
        if (n < 0 || n > 60) {
            return -1;
        }
        if (n > 0) {
            remember();
            now = gone(n, true, seed);
        }
        return now.beat;
    }

    boolean undo() {
        if (past.isEmpty()) {
            return false;
        }
        now = past.remove(past.size() - 1);
        return true;
    }

    boolean hold(int slot) {
        if (slot < 0 || slot > 2) {
            return false;
        }
        slots[slot] = now.same();
        return true;
    }

    boolean restore(int slot) {
        if (slot < 0 || slot > 2 || slots[slot] == null) {
            return false;
        }
        now = slots[slot].same();
        past.clear();
        return true;
    }

    // ---- patterns by themselves

    /** Throws for ten rounds and more, each counted out: do two come down in one beat? */
    private static boolean closing(List<Integer> row) {
        Set<Integer> down = new HashSet<>();
        for (int i = 0; i < row.size() * 12; i++) {
            if (!down.add(i + row.get(i % row.size()))) {
                return false;
            }
        }
        return true;
    }

    private static int keeps(List<Integer> row) {
        int sum = 0;
        for (int height : row) {
            sum += height;
        }
        return closing(row) ? sum / row.size() : -2;
    }

    private List<Integer> row(int pattern) {
        return pattern < 0 || pattern >= patterns.size() ? null : patterns.get(pattern);
    }

    int closes(int pattern, int what) {
        if (row(pattern) == null || what < 0 || what > 1) {
            return -1;
        }
        return what == 1 ? keeps(row(pattern)) : closing(row(pattern)) ? 1 : 0;
    }

    int joined(int pattern, int other, int what) {
        if (row(pattern) == null || row(other) == null || what < 0 || what > 1) {
            return -1;
        }
        List<Integer> both = new ArrayList<>(row(pattern));
        both.addAll(row(other));
        return what == 1 ? keeps(both) : closing(both) ? 1 : 0;
    }

    int turned(int pattern, int other) {
        if (row(pattern) == null || row(other) == null) {
            return -1;
        }
        List<Integer> turning = new ArrayList<>(row(pattern));
        for (int i = 0; i < turning.size(); i++) {
            if (turning.equals(row(other))) {
                return i;
            }
            turning.add(turning.remove(0));
        }
        return -2;
    }

    int span(int pattern) {
        return row(pattern) == null ? -1 : row(pattern).stream().mapToInt(h -> h).max().getAsInt();
    }

    int orbits(int pattern) {
        List<Integer> row = row(pattern);
        if (row == null) {
            return -1;
        }
        if (!closing(row)) {
            return -2;
        }
        int[] group = new int[row.size()];
        for (int i = 0; i < group.length; i++) {
            group[i] = i;
        }
        for (int i = 0; i < group.length; i++) {
            int one = group[i];
            int other = group[(i + row.get(i)) % group.length];
            for (int j = 0; j < group.length; j++) {
                group[j] = group[j] == one ? other : group[j];
            }
        }
        return (int) Arrays.stream(group).distinct().count();
    }

    int swaps(int pattern) {
        List<Integer> row = row(pattern);
        if (row == null) {
            return -1;
        }
        int found = 0;
        for (int i = 0; i < row.size(); i++) {
            for (int j = i + 1; j < row.size(); j++) {
                int first = row.get(j) + (j - i);
                int second = row.get(i) - (j - i);
                found += first >= 0 && first <= 9 && second >= 0 && second <= 9 ? 1 : 0;
            }
        }
        return found;
    }

    int ways(int p, int m, int k, int i) {
        if (p < 1 || p > 5 || m < 1 || m > 7 || k < 0 || k > 7 || i < -1 || i >= p) {
            return -1;
        }
        int found = 0;
        List<Integer> lowest = null;
        for (int number = 0; number < Math.pow(m + 1, p); number++) {
            List<Integer> row = new ArrayList<>();
            int rest = number;
            for (int j = 0; j < p; j++) {
                row.add(0, rest % (m + 1));
                rest /= m + 1;
            }
            if (keeps(row) == k) {
                found++;
                lowest = lowest == null ? row : lowest;
            }
        }
        return i == -1 ? found : lowest == null ? -2 : lowest.get(i);
    }

    // ---- what would be

    private int landingMask() {
        int mask = 0;
        for (Thing t : now.things) {
            mask |= t.where == 0 ? 1 << t.landsAt - now.beat : 0;
        }
        return mask;
    }

    int lands() {
        return landingMask();
    }

    int inHand(int n) {
        if (n < 0 || n > 60) {
            return -1;
        }
        return hands(n + 1).get(n);
    }

    private List<Integer> hands(int n) {
        List<Integer> found = new ArrayList<>();
        World w = now.same();
        for (int i = 0; i < n; i++) {
            beat(w, false, 0);
            found.add(w.inHand);
        }
        return found;
    }

    int clash() {
        World w = now.same();
        for (int n = 0; n <= 60; n++) {
            if (w.landing().size() > 1) {
                return n;
            }
            beat(w, false, 0);
        }
        return -2;
    }

    int gap() {
        for (int n = 0; n <= 60; n++) {
            if (gone(n, false, 0).landing().isEmpty()) {
                return n;
            }
        }
        return -2;
    }

    int room(int thing) {
        if (thing < 0 || thing >= now.things.size() || now.things.get(thing).where == 0) {
            return -1;
        }
        World kept = now;
        int found = -2;
        for (int n = 9; n >= 0; n--) {
            now = kept.same();
            now.things.get(thing).where = 0;
            now.things.get(thing).landsAt = now.beat + n;
            int at = clash();
            found = at == -2 || at == 60 ? n : found;
        }
        now = kept;
        return found;
    }

    int into(int pattern, int i) {
        List<Integer> row = row(pattern);
        if (row == null || !closing(row) || i < -1) {
            return -1;
        }
        // 840 beats are whole rounds of every row of up to 8
        int goal = 0;
        for (int t = 0; t < 840; t++) {
            int down = t + row.get(t % row.size());
            goal |= down >= 840 ? 1 << down - 840 : 0;
        }
        Map<Integer, String> reached = new HashMap<>();
        if (Integer.bitCount(landingMask()) == now.up()) {
            reached.put(landingMask(), "");
        }
        for (int n = 0; n <= 12; n++) {
            String way = reached.get(goal);
            if (way != null) {
                return i == -1 ? n : i < n ? way.charAt(i) - '0' : -1;
            }
            Map<Integer, String> next = new HashMap<>();
            for (Map.Entry<Integer, String> one : reached.entrySet()) {
                int mask = one.getKey();
                for (int height = 0; height <= 9; height++) {
                    boolean lands = mask % 2 == 1;
                    if (lands == height > 0 && (height == 0 || (mask >> height & 1) == 0)) {
                        int then = lands ? (mask | 1 << height) >> 1 : mask >> 1;
                        next.merge(then, one.getValue() + height, (a, b) -> a.compareTo(b) <= 0 ? a : b);
                    }
                }
            }
            reached = next;
        }
        return i == -1 ? -2 : -3;
    }

    int busiest(int n, int what) {
        if (n < 1 || n > 60 || what < 0 || what > 1) {
            return -1;
        }
        int best = -2;
        int most = 0;
        for (int thing = 0; thing < now.things.size(); thing++) {
            int often = 0;
            for (int caught : hands(n)) {
                often += caught == thing ? 1 : 0;
            }
            if (often > most) {
                best = thing;
                most = often;
            }
        }
        return what == 0 || most == 0 ? best : most;
    }

    int load(int n) {
        if (n < 1 || n > 60) {
            return -1;
        }
        int sum = 0;
        for (int caught : hands(n)) {
            sum += caught < 0 ? 0 : now.things.get(caught).weight;
        }
        return sum;
    }

    int rule(int n) {
        if (n < 1 || n > 60) {
            return -100000;
        }
        int sum = 0;
        World w = now.same();
        for (int i = 0; i < n; i++) {
            beat(w, false, 0);
            sum += w.inForce;
        }
        return sum;
    }

    int order(int i) {
        List<Integer> up = new ArrayList<>();
        for (int thing = 0; thing < now.things.size(); thing++) {
            if (now.things.get(thing).where == 0) {
                up.add(thing);
            }
        }
        up.sort((a, b) -> now.things.get(a).landsAt - now.things.get(b).landsAt);
        return i < 0 || i >= up.size() ? -1 : up.get(i);
    }

    int handover() {
        Set<Integer> wanting = new HashSet<>();
        for (int thing = 0; thing < now.things.size(); thing++) {
            if (now.things.get(thing).where == 0) {
                wanting.add(thing);
            }
        }
        for (int n = 0; n <= 60; n++) {
            if (n > 0) {
                wanting.remove(gone(n, true, seed).inHand);
            }
            if (wanting.isEmpty()) {
                return n;
            }
        }
        return -2;
    }

    int limit(int w) {
        if (w < 0 || w > 999) {
            return -1;
        }
        World gone = now.same();
        for (int n = 0; n <= 200; n++) {
            if (gone.tired >= w) {
                return n;
            }
            beat(gone, true, seed);
        }
        return -2;
    }

    int down() {
        World w = now.same();
        for (int n = 0; n <= 200; n++) {
            if (w.up() == 0) {
                return n;
            }
            beat(w, true, seed);
        }
        return -2;
    }

    int light(int n, int what) {
        if (n < 1 || n > 60 || what < 0 || what > 1) {
            return -1;
        }
        World kept = now;
        int best = -2;
        int least = -2;
        for (int pattern = patterns.size() - 1; pattern >= 0; pattern--) {
            if (keeps(patterns.get(pattern)) == kept.up()) {
                now = kept.same();
                now.inUse = pattern;
                now.since = now.beat;
                int tired = gone(n, true, seed).tired;
                if (best == -2 || tired <= least) {
                    best = pattern;
                    least = tired;
                }
                now = kept;
            }
        }
        return what == 0 ? best : least;
    }

    int then(int n, int what) {
        if (n < 0 || n > 60 || what < 0 || what > 3) {
            return -1;
        }
        World w = gone(n, true, seed);
        return List.of(w.tired, w.up(), w.dropped - now.dropped, w.earned - now.earned).get(what);
    }

    int year(int n, int s) {
        if (n < 0 || n > 60 || s < 1 || s > 20) {
            return -1;
        }
        int good = 0;
        for (int by = seed; by < seed + s; by++) {
            good += gone(n, true, by).dropped == now.dropped ? 1 : 0;
        }
        return good;
    }

    // ---- what glitters

    int tell(int n, boolean hand) {
        if (n < 0 || n > 40 || told.size() == 20) {
            return -1;
        }
        told.add(new int[] {n, hand ? 1 : 0});
        return told.size() - 1;
    }

    int forget() {
        int there = told.size();
        told.clear();
        return there;
    }

    private Set<Integer> agreeing(List<int[]> known) {
        Set<Integer> left = new HashSet<>();
        List<Integer> hands = hands(41);
        for (int thing = 0; thing < now.things.size(); thing++) {
            boolean so = now.things.get(thing).where == 0;
            for (int[] one : known) {
                so &= (hands.get(one[0]) == thing) == (one[1] == 1);
            }
            if (so) {
                left.add(thing);
            }
        }
        return left;
    }

    int glitters(int k, int what) {
        if (k < 0 || k > told.size() || what < 0 || what > 1) {
            return -1;
        }
        int bits = 0;
        for (int thing : agreeing(told.subList(0, k))) {
            bits += 1 << thing;
        }
        return what == 1 ? bits : Integer.bitCount(bits);
    }

    int watch(int k) {
        if (k < 0 || k > told.size()) {
            return -1;
        }
        if (agreeing(told.subList(0, k)).isEmpty()) {
            return -2;
        }
        int best = -1;
        int fewest = 99;
        for (int n = 0; n <= 40; n++) {
            List<int[]> with = new ArrayList<>(told.subList(0, k));
            with.add(new int[] {n, 1});
            int yes = agreeing(with).size();
            with.set(k, new int[] {n, 0});
            int no = agreeing(with).size();
            if (Math.max(yes, no) < fewest) {
                fewest = Math.max(yes, no);
                best = n;
            }
        }
        return best;
    }
}
