/** The boundaries of promises 7, 14, 19 to 23 and 31, and of section III as far as it is of PATTERNS by themselves. */
final class PatternEdges extends Edges {
    private static final int[] NO_PATTERNS = {Integer.MIN_VALUE, -2, -1, 5, 6, Integer.MAX_VALUE};

    PatternEdges(Ledger ledger) {
        super(ledger);
    }

    @Override
    void all() {
        pattern();
        closes();
        joined();
        turned();
        span();
        orbits();
        swaps();
        ways();
        waysAll();
        fewerThanFive();
    }

    private StateJuggler five() {
        return told("pattern p 5 3 1;pattern q 4 3 2;pattern r 0;pattern s 9 9 9 9 9 9 9 9;pattern t 8 0 7;");
    }

    private void pattern() {
        says("`int pattern(int pattern, int i)`: The i-th HEIGHT of a PATTERN (i NONE: how many it has); NONE: no such ones.");
        StateJuggler x = told("pattern p 5 3 1;pattern q 4;pattern r 0 9;pattern s 1 2 3 4 5 6 7 8;pattern t 8 0 7 6;");
        int[][] heights = {{5, 3, 1}, {4}, {0, 9}, {1, 2, 3, 4, 5, 6, 7, 8}, {8, 0, 7, 6}};
        for (int pattern = 0; pattern < 5; pattern++) {
            int[] row = heights[pattern];
            due("how many of " + pattern, row.length, x.pattern(pattern, -1));
            for (int i = -3; i < 10; i++) {
                if (i != -1) {
                    due("height " + i + " of " + pattern, i >= 0 && i < row.length ? row[i] : -1, x.pattern(pattern, i));
                }
            }
            due("far below", -1, x.pattern(pattern, Integer.MIN_VALUE));
            due("far above", -1, x.pattern(pattern, Integer.MAX_VALUE));
        }
        for (int pattern : NO_PATTERNS) {
            due("how many of " + pattern, -1, x.pattern(pattern, -1));
            due("first of " + pattern, -1, x.pattern(pattern, 0));
        }
    }

    private void closes() {
        says("CLOSES: whether no two throws of a PATTERN, gone on with for ever, come down in one beat; how many THINGS it keeps"
                + " (all its HEIGHTS by how many they are) then.");
        says("`int closes(int pattern, int what)`: CLOSES: what 0: 1 it does, 0 not, 1 how many THINGS it keeps (-2: it does"
                + " not); NONE: no such ones.");
        String[] rows = {"0", "9", "9 9 9 9 9 9 9 9", "0 0 0 0 0 0 0 0", "1 0", "0 1", "2 0", "9 1", "8 1", "0 9 9 9 9 9 9 9",
            "8 0 0 0 0 0 0 0", "7 0 0 0 0 0 0 9", "9 0 0 0 0 0 0 7", "9 7 5 3 1", "5 0 1", "1 5 0", "2 1", "0 2 1"};
        int[] keeps = {0, 9, 9, 0, -2, -2, 1, 5, -2, -2, 1, 2, -2, 5, 2, 2, -2, -2};
        for (int i = 0; i < rows.length; i++) {
            StateJuggler x = told("pattern p " + rows[i] + ";");
            due(rows[i] + " closes", keeps[i] == -2 ? 0 : 1, x.closes(0, 0));
            due(rows[i] + " keeps", keeps[i], x.closes(0, 1));
        }
        StateJuggler x = five();
        due("the fifth", 1, x.closes(4, 0));
        due("what -1", -1, x.closes(0, -1));
        due("what 2", -1, x.closes(0, 2));
        due("what 2, not closing", -1, x.closes(1, 2));
        due("what least", -1, x.closes(0, Integer.MIN_VALUE));
        for (int pattern : NO_PATTERNS) {
            due("closes " + pattern, -1, x.closes(pattern, 0));
            due("keeps " + pattern, -1, x.closes(pattern, 1));
        }
    }

    private void joined() {
        says("JOINED: whether two PATTERNS, the one's HEIGHTS and then the other one's, CLOSE as one; how many THINGS these"
                + " keep.");
        says("`int joined(int pattern, int other, int what)`: JOINED: what 0: 1 so, 0 not, 1 how many THINGS (-2: they do not"
                + " CLOSE); NONE: no such ones.");
        StateJuggler x = told("pattern p 9 9 9 9 9 9 9 9;pattern q 9;pattern r 8;pattern s 0;pattern t 0 0 0 0 0 0 0 0;");
        due("sixteen", 1, x.joined(0, 0, 0));
        due("sixteen keep", 9, x.joined(0, 0, 1));
        due("sixteen 0s keep", 0, x.joined(4, 4, 1));
        due("nine", 9, x.joined(0, 1, 1));
        due("nine the other way", 9, x.joined(1, 0, 1));
        due("two", 9, x.joined(1, 1, 1));
        // 9 and 8 come down in 9 both
        due("9 8", 0, x.joined(1, 2, 0));
        due("9 8 keep none", -2, x.joined(1, 2, 1));
        // the 9s come down in 9 to 16, the 0s in 8 to 15
        due("half of each", 0, x.joined(0, 4, 0));
        // 4 0 3 5 comes down in 4, 1, 5: by 4 in 0, 1, 1
        StateJuggler y = told("pattern p 4 0;pattern q 3 5;pattern r 1;pattern s 5 0;");
        due("40 35", 0, y.joined(0, 1, 0));
        // 5 0 comes down in 5, 1; 1 5 0 in 1, 6, 2: by 3 in 1, 0, 2; 5 0 1 in 5, 1, 3: by 3 in 2, 1, 0
        due("50 by itself", 0, y.closes(3, 0));
        due("1 50", 2, y.joined(2, 3, 1));
        due("50 1", 2, y.joined(3, 2, 1));
        due("what -1", -1, x.joined(0, 0, -1));
        due("what 2", -1, x.joined(0, 0, 2));
        due("what most", -1, x.joined(0, 0, Integer.MAX_VALUE));
        for (int pattern : NO_PATTERNS) {
            due("joined " + pattern, -1, x.joined(pattern, 0, 0));
            due("joined to " + pattern, -1, x.joined(0, pattern, 0));
            due("joined both " + pattern, -1, x.joined(pattern, pattern, 1));
        }
        due("the fifth and the fifth", 1, x.joined(4, 4, 0));
    }

    private void turned() {
        says("TURNED: by how many HEIGHTS at least, taken from its beginning to its end, one PATTERN becomes another one (as"
                + " many HEIGHTS, each the same).");
        says("`int turned(int pattern, int other)`: TURNED (0: alike as told); -2: not; NONE: no such ones.");
        StateJuggler x = told("pattern p 1 2 3 4 5 6 7 8;pattern q 8 1 2 3 4 5 6 7;pattern r 2 3 4 5 6 7 8 1;"
                + "pattern s 1 2 3 4 5 6 7;pattern t 1 2 3 4 5 6 7 9;");
        due("by none", 0, x.turned(0, 0));
        due("by seven, the most", 7, x.turned(0, 1));
        due("by one", 1, x.turned(0, 2));
        due("back by seven", 7, x.turned(2, 0));
        due("not as many", -2, x.turned(0, 3));
        due("not as many, shorter", -2, x.turned(3, 0));
        due("one is another", -2, x.turned(0, 4));
        StateJuggler y = told("pattern p 3;pattern q 3;pattern r 4;pattern s 3 1 3 1 3 1 3 1;pattern t 1 3 1 3 1 3 1 3;");
        due("another name", 0, y.turned(0, 1));
        due("another height", -2, y.turned(0, 2));
        due("at least", 1, y.turned(3, 4));
        due("at least none", 0, y.turned(3, 3));
        for (int pattern : NO_PATTERNS) {
            due("turned " + pattern, -1, x.turned(pattern, 0));
            due("turned into " + pattern, -1, x.turned(0, pattern));
            due("turned both " + pattern, -1, x.turned(pattern, pattern));
        }
        due("the fifth", 0, x.turned(4, 4));
    }

    private void span() {
        says("`int span(int pattern)`: The highest HEIGHT of a PATTERN; NONE: no such one.");
        StateJuggler x = told("pattern p 0;pattern q 9;pattern r 1 2 3 4 5 6 7 8;pattern s 8 7 6 5 4 3 2 1;pattern t 0 5 5;");
        int[] want = {0, 9, 8, 8, 5};
        for (int pattern = 0; pattern < 5; pattern++) {
            due("span " + pattern, want[pattern], x.span(pattern));
        }
        for (int pattern : NO_PATTERNS) {
            due("span " + pattern, -1, x.span(pattern));
        }
    }

    private void orbits() {
        says("ORBITS of a PATTERN that CLOSES: how many rows of throws go back into themselves, each throw followed by the one"
                + " at the beat in which it comes down (a HEIGHT 0 by itself).");
        says("`int orbits(int pattern)`: ORBITS; -2: it does not CLOSE; NONE: no such PATTERN.");
        String[] rows = {"0", "1", "9", "0 0 0 0 0 0 0 0", "8 8 8 8 8 8 8 8", "1 1 1 1 1 1 1 1", "9 9 9 9 9 9 9 9", "4 4 4 4 4 4 4 4",
            "2 0", "1 1", "5 3 1", "4 4 1", "4 3 2", "9 7 5 3 1"};
        int[] want = {1, 1, 1, 8, 8, 1, 1, 4, 2, 1, 2, 1, -2, 3};
        for (int i = 0; i < rows.length; i++) {
            due("orbits of " + rows[i], want[i], told("pattern p " + rows[i] + ";").orbits(0));
        }
        StateJuggler x = five();
        for (int pattern : NO_PATTERNS) {
            due("orbits " + pattern, -1, x.orbits(pattern));
        }
        // 8, 1 and 9 by 3 are 2, 1 and 0: the first and the last go on from one to the other
        due("the fifth", 2, x.orbits(4));
    }

    private void swaps() {
        says("SWAPS: pairs of its throws, the j-th behind the i-th, of which the i-th could be as high as the j-th and j less i"
                + " more, and the j-th as high as the i-th and j less i less, both 0 .. 9: how many.");
        says("`int swaps(int pattern)`: SWAPS; NONE: no such PATTERN.");
        // j less i is 1: the first becomes one more than the second, the second one less than the first
        String[] rows = {"5", "1 8", "1 9", "0 8", "0 9", "1 0", "9 8", "9 9", "9 9 9 9 9 9 9 9", "2 0 7", "2 0 8", "1 0 7"};
        // 2 0 7: 2 0 to 1 1, 2 7 to 9 0, 0 7 not; 2 0 8: 2 8 to 10 0; 1 0 7: 1 0 to 1 0, 1 7 to 9 -1
        int[] want = {0, 1, 0, 0, 0, 1, 1, 0, 0, 2, 1, 1};
        for (int i = 0; i < rows.length; i++) {
            due("swaps of " + rows[i], want[i], told("pattern p " + rows[i] + ";").swaps(0));
        }
        // the first goes with each 0; with the eighth it would be 9 and 0, 10 and 0, 9 and -1
        due("7 and 2, seven apart", 7, told("pattern p 7 0 0 0 0 0 0 2;").swaps(0));
        due("7 and 3, seven apart", 6, told("pattern p 7 0 0 0 0 0 0 3;").swaps(0));
        due("6 and 2, seven apart", 6, told("pattern p 6 0 0 0 0 0 0 2;").swaps(0));
        due("all of 28", 28, told("pattern p 7 7 6 5 4 3 2 1;").swaps(0));
        StateJuggler x = five();
        for (int pattern : NO_PATTERNS) {
            due("swaps " + pattern, -1, x.swaps(pattern));
        }
        due("the fifth", 2, x.swaps(4));
    }

    private void ways() {
        says("WAYS of p (1 .. 5) HEIGHTS 0 .. m (1 .. 7) that CLOSE and keep k (0 .. 7): how many rows; the lowest one, HEIGHT by"
                + " HEIGHT.");
        says("`int ways(int p, int m, int k, int i)`: WAYS: how many (i NONE), else the i-th HEIGHT of the lowest one (-2: none);"
                + " NONE (looked at first): no such ones (i 0 .. p less 1).");
        StateJuggler x = new StateJuggler();
        int[] wrong = {Integer.MIN_VALUE, Integer.MAX_VALUE};
        for (int far : wrong) {
            due("p far", -1, x.ways(far, 7, 3, -1));
            due("m far", -1, x.ways(3, far, 3, -1));
            due("k far", -1, x.ways(3, 7, far, -1));
            due("i far", -1, x.ways(3, 7, 3, far));
        }
        for (int p = -1; p <= 7; p++) {
            boolean there = p >= 1 && p <= 5;
            due("p " + p, there ? 1 : -1, x.ways(p, 7, 7, -1));
            due("p " + p + ", i 0", there ? 7 : -1, x.ways(p, 7, 7, 0));
        }
        for (int m = -1; m <= 9; m++) {
            due("m " + m, m >= 1 && m <= 7 ? 1 : -1, x.ways(3, m, 0, -1));
        }
        for (int k = -2; k <= 9; k++) {
            due("k " + k, k >= 0 && k <= 7 ? 1 : -1, x.ways(1, 7, k, -1));
        }
        for (int p = 1; p <= 5; p++) {
            for (int i = -3; i <= 7; i++) {
                if (i != -1) {
                    due("i " + i + " of " + p, i >= 0 && i < p ? 3 : -1, x.ways(p, 3, 3, i));
                    // none there: NONE is looked at first
                    due("i " + i + " of none of " + p, i >= 0 && i < p ? -2 : -1, x.ways(p, 3, 4, i));
                }
            }
            due("none of " + p, 0, x.ways(p, 3, 4, -1));
        }
        due("all wrong", -1, x.ways(0, 0, -1, -2));
    }

    /** All of them, held against rows that are counted out one by one. */
    private void waysAll() {
        StateJuggler x = new StateJuggler();
        for (int p = 1; p <= 5; p++) {
            for (int m = 1; m <= 7; m++) {
                int rows = (int) Math.pow(m + 1, p);
                int[] found = new int[8];
                int[] lowest = new int[8];
                for (int row = 0; row < rows; row++) {
                    int keeps = keeps(row, p, m);
                    if (keeps >= 0 && found[keeps]++ == 0) {
                        lowest[keeps] = row;
                    }
                }
                for (int k = 0; k <= 7; k++) {
                    String name = "ways " + p + " " + m + " " + k;
                    due(name, found[k], x.ways(p, m, k, -1));
                    for (int i = 0; i < p; i++) {
                        due(name + " at " + i, found[k] == 0 ? -2 : height(lowest[k], i, p, m), x.ways(p, m, k, i));
                    }
                }
            }
        }
    }

    /** The i-th of p digits to the base of m + 1, the highest first. */
    private static int height(int row, int i, int p, int m) {
        int rest = row;
        for (int j = p - 1; j > i; j--) {
            rest /= m + 1;
        }
        return rest % (m + 1);
    }

    /** How many THINGS a row keeps, or -1 if two throws come down in one beat. */
    private static int keeps(int row, int p, int m) {
        int sum = 0;
        for (int i = 0; i < p; i++) {
            sum += height(row, i, p, m);
            for (int j = 0; j < i; j++) {
                if (Math.floorMod(i + height(row, i, p, m) - j - height(row, j, p, m), p) == 0) {
                    return -1;
                }
            }
        }
        return sum / p;
    }

    /** No such PATTERN is one behind the last that was told, be there room for it or not. */
    private void fewerThanFive() {
        StateJuggler x = told("pattern p 3;pattern q 3;pattern r 3;pattern s 3;pattern t 3;");
        Check.put(x, "pattern p 4;");
        due("a shorter text", 0, x.read());
        due("closes 0", 4, x.closes(0, 1));
        for (int pattern = 1; pattern < 5; pattern++) {
            due("pattern " + pattern, -1, x.pattern(pattern, -1));
            due("closes " + pattern, -1, x.closes(pattern, 0));
            due("joined " + pattern, -1, x.joined(0, pattern, 0));
            due("turned " + pattern, -1, x.turned(0, pattern));
            due("span " + pattern, -1, x.span(pattern));
            due("orbits " + pattern, -1, x.orbits(pattern));
            due("swaps " + pattern, -1, x.swaps(pattern));
            due("into " + pattern, -1, x.into(pattern, -1));
            due("use " + pattern, false, x.use(pattern));
        }
    }
}
