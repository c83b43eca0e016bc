import java.nio.charset.StandardCharsets;
import java.util.ArrayList;
import java.util.List;
import java.util.Random;

/** All promises together: runs of calls, drawn by fixed seeds, on the class and on the NaiveJuggler alike. */
final class CompareTest {
    private static final int RUNS = 400;
    private static final int CALLS = 500;
    private static final String[] VARS = {"weight", "edge", "height", "beat", "tired", "up", "which", "caught", "hand"};
    private static final String[] NAMES = {"a", "b", "cc", "flag", "abcdefgh", "seal", "x", "y", "zz", "q", "thinga",
        "iff", "m", "n", "o", "k"};

    private final Random random;
    private final StateJuggler x = new StateJuggler();
    private final NaiveJuggler naive = new NaiveJuggler();
    private final List<String> names = new ArrayList<>();
    private int[] lastRow;

    private CompareTest(long seed) {
        random = new Random(seed);
    }

    public static void main(String[] args) {
        Check check = new Check();
        for (int run = 0; run < RUNS; run++) {
            new CompareTest(run).run(check, run);
        }
        check.end();
    }

    private void run(Check check, int run) {
        for (int call = 0; call < CALLS; call++) {
            if (call == 0 || oneOf(60)) {
                String text = oneOf(3) ? spoiled(text()) : text();
                feed(check, run, text);
                ask(check, run, call, 3);
                ask(check, run, call, 4);
            }
            int which = random.nextInt(43);
            // to read at random would mostly be to read nothing, and to forget all
            boolean seldom = which <= 3 || which == 37;
            ask(check, run, call, seldom && !oneOf(20) ? 11 : which);
        }
    }

    private void feed(Check check, int run, String text) {
        byte[] bytes = text.getBytes(StandardCharsets.ISO_8859_1);
        int more = (20 - bytes.length % 20) % 20;
        for (int i = 0; i < bytes.length; i += 20) {
            int[] w = new int[5];
            for (int j = 0; j < 20; j++) {
                int sign = i + j < bytes.length ? bytes[i + j] & 255 : 32;
                w[j / 4] = w[j / 4] << 8 | sign;
            }
            check.due("run " + run + " feed", naive.feed(w[0], w[1], w[2], w[3], w[4]),
                    x.feed(w[0], w[1], w[2], w[3], w[4]));
        }
        check.due("run " + run + " back", naive.back(more), x.back(more));
    }

    private boolean oneOf(int n) {
        return random.nextInt(n) == 0;
    }

    private int from(int low, int high) {
        return low + random.nextInt(high - low + 1);
    }

    /** Mostly within what is asked for, at times at its edges or far off. */
    private int arg(int low, int high) {
        int sort = random.nextInt(24);
        if (sort == 0) {
            return oneOf(2) ? low - 1 : high + 1;
        }
        if (sort == 1) {
            return oneOf(2) ? low : high;
        }
        if (sort == 2 && oneOf(3)) {
            return oneOf(2) ? Integer.MIN_VALUE : Integer.MAX_VALUE;
        }
        return from(low, high);
    }

    // ---- texts

    private String text() {
        StringBuilder all = new StringBuilder();
        names.clear();
        int things = oneOf(40) ? 8 : from(oneOf(9) ? 0 : 1, 7);
        int patterns = oneOf(40) ? 6 : from(0, 5);
        int up = oneOf(3) ? from(1, 6) : things;
        int tells = things + patterns + from(0, 7);
        for (int i = 0; i < tells; i++) {
            if (i < things) {
                // mostly one beat each, so that patterns can be kept
                int lands = oneOf(6) ? from(0, 9) : i;
                all.append("thing ").append(name()).append(' ').append(from(1, 9)).append(' ').append(from(0, 9))
                        .append(' ').append(Math.min(9, lands)).append(';');
            } else if (i < things + patterns) {
                all.append("pattern ").append(name()).append(heights(up)).append(';');
            } else {
                all.append(otherTell());
            }
            all.append(" \n\t\r".charAt(random.nextInt(4)));
        }
        return all.toString();
    }

    private String name() {
        String found = NAMES[random.nextInt(NAMES.length)];
        for (int i = 0; i < 40 && names.contains(found) && !oneOf(400); i++) {
            found = NAMES[random.nextInt(NAMES.length)];
        }
        names.add(found);
        return found;
    }

    /** Now and then a row that closes: as many of one height, some pairs of them swapped. */
    private String heights(int up) {
        StringBuilder all = new StringBuilder();
        int length = oneOf(60) ? 9 : from(1, 8);
        int[] row = new int[length];
        if (oneOf(5) && lastRow != null) {
            // the row ahead of it, turned
            int turn = random.nextInt(lastRow.length);
            for (int i = 0; i < lastRow.length; i++) {
                all.append(' ').append(lastRow[(i + turn) % lastRow.length]);
            }
            return all.toString();
        }
        int kept = oneOf(2) ? up : from(0, 7);
        for (int i = 0; i < length; i++) {
            row[i] = oneOf(25) ? from(0, 9) : kept;
        }
        for (int n = 0; n < 8; n++) {
            int i = random.nextInt(length);
            int j = random.nextInt(length);
            int first = row[j] + j - i;
            int second = row[i] - j + i;
            if (i < j && first >= 0 && first <= 9 && second >= 0 && second <= 9) {
                row[i] = first;
                row[j] = second;
            }
        }
        for (int height : row) {
            all.append(' ').append(height);
        }
        lastRow = row;
        return all.toString();
    }

    private String otherTell() {
        switch (random.nextInt(8)) {
            case 0:
                return "rests " + from(0, oneOf(10) ? 120 : 9) + ";";
            case 1:
            case 2:
                return "seed " + from(0, 9999) + ";";
            case 3:
                return "drops = " + from(0, 9) + ";";
            default:
                return new String[] {"tires", "drops", "force", "pays"}[random.nextInt(4)] + "=" + law() + ";";
        }
    }

    private String law() {
        StringBuilder all = new StringBuilder();
        int ifs = oneOf(3) ? from(1, oneOf(8) ? 5 : 4) : 0;
        for (int i = 0; i < ifs; i++) {
            all.append("if ").append(sum(2)).append('<').append(sum(2)).append(" then ").append(sum(2))
                    .append(" else ");
        }
        return all.append(sum(oneOf(15) ? 7 : 3)).toString();
    }

    private String sum(int deep) {
        StringBuilder all = new StringBuilder(unit(deep));
        int more = random.nextInt(3);
        for (int i = 0; i < more; i++) {
            all.append("+-*/".charAt(random.nextInt(4))).append(unit(deep));
        }
        return all.toString();
    }

    private String unit(int deep) {
        if (deep > 0 && oneOf(deep > 3 ? 2 : 3)) {
            return "(" + sum(deep - 1) + ")";
        }
        return oneOf(2) ? VARS[random.nextInt(9)] : "" + from(0, oneOf(9) ? 9999 : 12);
    }

    private String spoiled(String text) {
        StringBuilder all = new StringBuilder(text);
        int times = from(1, 2);
        for (int i = 0; i < times && all.length() > 0; i++) {
            int at = random.nextInt(all.length());
            switch (random.nextInt(4)) {
                case 0:
                    all.deleteCharAt(at);
                    break;
                case 1:
                    all.insert(at, (char) random.nextInt(256));
                    break;
                case 2:
                    all.setCharAt(at, ";=+-*/<()019az A".charAt(random.nextInt(16)));
                    break;
                default:
                    all.setLength(at);
                    break;
            }
        }
        return all.toString();
    }

    // ---- calls

    private void ask(Check check, int run, int call, int which) {
        int thing = arg(0, oneOf(8) ? 6 : Math.max(0, naive.count(0) - 1));
        int pattern = arg(0, oneOf(8) ? 4 : Math.max(0, naive.count(1) - 1));
        int other = arg(0, oneOf(8) ? 4 : Math.max(2, naive.count(1) - 1));
        int n = arg(0, oneOf(2) ? 9 : 60);
        int what = arg(0, 1);
        String at = "run " + run + " call " + call + " ";
        switch (which) {
            case 1: case 2: case 5: case 6: case 7: case 13: case 18: case 19: case 20: case 21: case 22:
                plain(check, at, which, thing, pattern, other);
                break;
            case 3:
                check.due(at + "read", naive.read(), x.read());
                break;
            case 4:
                check.due(at + "place", naive.place(), x.place());
                break;
            case 8:
                int most = oneOf(2) ? 9 : n;
                check.due(at + "throwIn " + thing, naive.throwIn(thing, most), x.throwIn(thing, most));
                break;
            case 9:
                check.due(at + "use " + pattern, naive.use(pattern), x.use(pattern));
                break;
            case 10:
                check.due(at + "set " + n, naive.set(n), x.set(n));
                break;
            case 11:
                int few = oneOf(2) ? arg(0, 4) : n;
                check.due(at + "beats " + few, naive.beats(few), x.beats(few));
                break;
            case 12:
                check.due(at + "undo", naive.undo(), x.undo());
                break;
            case 17:
                int i = arg(-1, 6);
                check.due(at + "into " + pattern + " " + i, naive.into(pattern, i), x.into(pattern, i));
                break;
            case 36:
                boolean hand = oneOf(3);
                check.due(at + "tell " + n, naive.tell(n, hand), x.tell(n, hand));
                break;
            case 37:
                check.due(at + "forget", naive.forget(), x.forget());
                break;
            case 38: case 39:
                int k = arg(0, Math.max(0, naive.count(13)));
                check.due(at + "glitters " + k + " " + what, naive.glitters(k, what), x.glitters(k, what));
                check.due(at + "watch " + k, naive.watch(k), x.watch(k));
                break;
            case 40:
                check.due(at + "hold " + other, naive.hold(other), x.hold(other));
                break;
            case 41:
                check.due(at + "restore " + other, naive.restore(other), x.restore(other));
                break;
            default:
                ahead(check, at, which, thing, n, what);
                break;
        }
        for (int c = 0; c < 18; c++) {
            check.due(at + "count " + c, naive.count(c), x.count(c));
        }
    }

    private void plain(Check check, String at, int which, int thing, int pattern, int other) {
        int what = arg(0, 4);
        int few = arg(0, 1);
        switch (which) {
            case 1:
                if (oneOf(3)) {
                    feed(check, 0, "thing t 1 1 1; ");
                }
                break;
            case 2:
                int n = oneOf(2) ? Math.max(0, naive.count(11)) + from(0, 1) : from(-1, 9);
                check.due(at + "back " + n, naive.back(n), x.back(n));
                break;
            case 5:
                check.due(at + "thing " + thing + " " + what, naive.thing(thing, what), x.thing(thing, what));
                break;
            case 6:
                int i = arg(-1, 8);
                check.due(at + "pattern " + pattern + " " + i, naive.pattern(pattern, i), x.pattern(pattern, i));
                break;
            case 7:
                int height = arg(0, 9);
                int law = arg(0, 3);
                check.due(at + "tells " + thing + " " + height + " " + law, naive.tells(thing, height, law),
                        x.tells(thing, height, law));
                break;
            case 13:
                check.due(at + "closes " + pattern + " " + few, naive.closes(pattern, few), x.closes(pattern, few));
                break;
            case 18:
                check.due(at + "joined " + pattern + " " + other + " " + few, naive.joined(pattern, other, few),
                        x.joined(pattern, other, few));
                break;
            case 19:
                check.due(at + "turned " + pattern + " " + other, naive.turned(pattern, other),
                        x.turned(pattern, other));
                break;
            case 20:
                check.due(at + "span " + pattern, naive.span(pattern), x.span(pattern));
                break;
            case 21:
                check.due(at + "orbits " + pattern, naive.orbits(pattern), x.orbits(pattern));
                break;
            default:
                check.due(at + "swaps " + pattern, naive.swaps(pattern), x.swaps(pattern));
                break;
        }
    }

    private void ahead(Check check, String at, int which, int thing, int n, int what) {
        switch (which) {
            case 14:
                check.due(at + "lands", naive.lands(), x.lands());
                break;
            case 15:
                check.due(at + "inHand " + n, naive.inHand(n), x.inHand(n));
                break;
            case 16:
                check.due(at + "clash", naive.clash(), x.clash());
                break;
            case 23:
                check.due(at + "room " + thing, naive.room(thing), x.room(thing));
                break;
            case 24:
                check.due(at + "handover", naive.handover(), x.handover());
                break;
            case 25:
                int w = oneOf(2) ? arg(0, 999) : naive.count(3) + from(0, 40);
                check.due(at + "limit " + w, naive.limit(w), x.limit(w));
                break;
            case 26:
                check.due(at + "busiest " + n + " " + what, naive.busiest(n, what), x.busiest(n, what));
                break;
            case 27:
                check.due(at + "load " + n, naive.load(n), x.load(n));
                break;
            case 28:
                check.due(at + "gap", naive.gap(), x.gap());
                break;
            case 29:
                int i = arg(0, 6);
                check.due(at + "order " + i, naive.order(i), x.order(i));
                break;
            case 30:
                waysAsked(check, at);
                break;
            case 31:
                check.due(at + "light " + n + " " + what, naive.light(n, what), x.light(n, what));
                break;
            case 32:
                check.due(at + "rule " + n, naive.rule(n), x.rule(n));
                break;
            case 33:
                check.due(at + "down", naive.down(), x.down());
                break;
            case 34:
                int more = arg(0, 3);
                check.due(at + "then " + n + " " + more, naive.then(n, more), x.then(n, more));
                break;
            case 35:
                int s = arg(1, 20);
                check.due(at + "year " + n + " " + s, naive.year(n, s), x.year(n, s));
                break;
            default:
                break;
        }
    }

    private void waysAsked(Check check, String at) {
        int p = arg(1, oneOf(6) ? 5 : 3);
        int m = arg(1, 7);
        int k = arg(0, 7);
        int i = arg(-1, 4);
        check.due(at + "ways " + p + " " + m + " " + k + " " + i, naive.ways(p, m, k, i), x.ways(p, m, k, i));
    }
}
