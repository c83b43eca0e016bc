/** Promises 14, 19 to 23 and 31: closes, joined, turned, span, orbits, swaps, ways. */
final class PatternsTest {
    private static final Check CHECK = new Check();

    public static void main(String[] args) {
        closing();
        joining();
        turning();
        spans();
        orbits();
        swaps();
        ways();
        CHECK.end();
    }

    private static void closing() {
        StateJuggler x = CHECK.told("pattern a 5 3 1; pattern b 4 3 2; pattern c 0; pattern d 9 0 0 9 0 0 9 0;"
                + "pattern e 7 5 3 1;");
        CHECK.due("531 closes", 1, x.closes(0, 0));
        CHECK.due("531 keeps", 3, x.closes(0, 1));
        CHECK.due("432 does not", 0, x.closes(1, 0));
        CHECK.due("432 keeps none", -2, x.closes(1, 1));
        CHECK.due("0 closes", 1, x.closes(2, 0));
        CHECK.due("0 keeps 0", 0, x.closes(2, 1));
        CHECK.due("90090090 does not", 0, x.closes(3, 0));
        CHECK.due("7531 keeps", 4, x.closes(4, 1));
        CHECK.due("what -1", -1, x.closes(0, -1));
        CHECK.due("what 2", -1, x.closes(0, 2));
        CHECK.due("pattern 5", -1, x.closes(5, 0));
        CHECK.due("pattern -1", -1, x.closes(-1, 0));
        StateJuggler y = CHECK.told("pattern a 2 1; pattern b 0 2 1; pattern c 9 9 9 9 9 9 9 9; pattern d 8 0; pattern e 0 1;");
        CHECK.due("21: both at 0", 0, y.closes(0, 0));
        CHECK.due("021: a throw comes down where none is thrown", 0, y.closes(1, 0));
        CHECK.due("eight 9s keep", 9, y.closes(2, 1));
        CHECK.due("80 keeps", 4, y.closes(3, 1));
        CHECK.due("01 does not", 0, y.closes(4, 0));
    }

    private static void joining() {
        StateJuggler x = CHECK.told("pattern a 3; pattern b 4 4 1; pattern c 5 1; pattern d 4 3 2; pattern e 4;");
        CHECK.due("3 441", 1, x.joined(0, 1, 0));
        CHECK.due("3 441 keeps", 3, x.joined(0, 1, 1));
        // 0+5, 1+1, 2+3 by 3: 2, 2, 2
        CHECK.due("51 3", 0, x.joined(2, 0, 0));
        CHECK.due("3 3", 3, x.joined(0, 0, 1));
        // 0+4, 1+4, 2+1, 3+5, 4+1 by 5: 4, 0, 3, 3
        CHECK.due("441 51", 0, x.joined(1, 2, 0));
        CHECK.due("441 51 keeps", -2, x.joined(1, 2, 1));
        // 0+3, 1+4 by 2: 1, 1
        CHECK.due("3 4", 0, x.joined(0, 4, 0));
        // 0+4, 1+3 by 2: 0, 0
        CHECK.due("4 3", -2, x.joined(4, 0, 1));
        CHECK.due("what 2", -1, x.joined(0, 1, 2));
        CHECK.due("what -1", -1, x.joined(0, 1, -1));
        CHECK.due("pattern 5", -1, x.joined(5, 0, 0));
        CHECK.due("other 5", -1, x.joined(0, 5, 0));
        CHECK.due("other -1", -1, x.joined(0, -1, 0));
        // neither closes, both together do: 3 4, 2 3 -> 3, 5, 4, 6 by 4: 3, 1, 0, 2
        StateJuggler y = CHECK.told("pattern a 3 4; pattern b 2 3; pattern c 9 9 9 9 9 9 9 9; pattern d 7 7 7 7 7 7 7 7;");
        CHECK.due("34", 0, y.closes(0, 0));
        CHECK.due("23", 0, y.closes(1, 0));
        CHECK.due("34 23", 3, y.joined(0, 1, 1));
        // the order counts: 2 3 3 4 -> 2, 4, 5, 7 by 4: 2, 0, 1, 3
        CHECK.due("23 34", 3, y.joined(1, 0, 1));
        CHECK.due("sixteen", 9, y.joined(2, 2, 1));
        CHECK.due("sixteen of two", 0, y.joined(2, 3, 0));
    }

    private static void turning() {
        StateJuggler x = CHECK.told("pattern a 5 3 1; pattern b 3 1 5; pattern c 1 5 3; pattern d 3 5 1; pattern e 3 1;");
        CHECK.due("531 to 531", 0, x.turned(0, 0));
        CHECK.due("531 to 315", 1, x.turned(0, 1));
        CHECK.due("531 to 153", 2, x.turned(0, 2));
        CHECK.due("315 to 531", 2, x.turned(1, 0));
        CHECK.due("531 to 351", -2, x.turned(0, 3));
        CHECK.due("531 to 31", -2, x.turned(0, 4));
        CHECK.due("pattern 5", -1, x.turned(5, 0));
        CHECK.due("other 5", -1, x.turned(0, 5));
        CHECK.due("pattern -1", -1, x.turned(-1, 0));
        StateJuggler y = CHECK.told("pattern a 4 4 1 4 4 1; pattern b 4 1 4 4 1 4; pattern c 4 4 1;");
        CHECK.due("the fewest", 1, y.turned(0, 1));
        CHECK.due("the fewest back", 2, y.turned(1, 0));
        CHECK.due("twice as long", -2, y.turned(0, 2));
        StateJuggler z = CHECK.told("pattern a 1 2 3; pattern b 9 2 3; pattern c 1 2 9; pattern d 1;");
        CHECK.due("another first", -2, z.turned(0, 1));
        CHECK.due("another last", -2, z.turned(0, 2));
        CHECK.due("one alone", -2, z.turned(3, 0));
    }

    private static void spans() {
        StateJuggler x = CHECK.told("pattern a 5 3 9 1; pattern b 0; pattern c 2 7; pattern d 8 7;");
        CHECK.due("highest", 9, x.span(0));
        CHECK.due("0", 0, x.span(1));
        CHECK.due("the last", 7, x.span(2));
        CHECK.due("the first", 8, x.span(3));
        CHECK.due("pattern 4", -1, x.span(4));
        CHECK.due("pattern -1", -1, x.span(-1));
    }

    private static void orbits() {
        StateJuggler x = CHECK.told("pattern a 5 3 1; pattern b 4 4 1; pattern c 5 0 1; pattern d 4 3 2;"
                + "pattern e 8 0 8 0 8 0 8 0;");
        // 531: 0 -> 2 -> 0, 1 -> 1
        CHECK.due("531", 2, x.orbits(0));
        // 441: 0 -> 1 -> 2 -> 0
        CHECK.due("441", 1, x.orbits(1));
        CHECK.due("501, the 0 by itself", 2, x.orbits(2));
        CHECK.due("432 does not close", -2, x.orbits(3));
        CHECK.due("eight by themselves", 8, x.orbits(4));
        CHECK.due("pattern 5", -1, x.orbits(5));
        CHECK.due("pattern -1", -1, x.orbits(-1));
    }

    private static void swaps() {
        StateJuggler x = CHECK.told("pattern a 4 4 1; pattern b 9 9; pattern c 0 9; pattern d 4 3 2; pattern e 3;");
        CHECK.due("441", 3, x.swaps(0));
        // the first would be 10
        CHECK.due("99", 0, x.swaps(1));
        CHECK.due("09", 0, x.swaps(2));
        CHECK.due("432, closing or not", 3, x.swaps(3));
        CHECK.due("3", 0, x.swaps(4));
        CHECK.due("pattern 5", -1, x.swaps(5));
        CHECK.due("pattern -1", -1, x.swaps(-1));
        StateJuggler y = CHECK.told("pattern a 0 8; pattern b 1 8; pattern c 1 9; pattern d 5 0 1;");
        // the second would be -1
        CHECK.due("08", 0, y.swaps(0));
        CHECK.due("18: 9 and 0", 1, y.swaps(1));
        CHECK.due("19: 10 and 0", 0, y.swaps(2));
        // 5 0: 1 and 4; 5 1: 3 and 3; 0 1: 2 and -1
        CHECK.due("501", 2, y.swaps(3));
        // the last two alone: 9 and 0
        StateJuggler z = CHECK.told("pattern a 0 0 0 0 0 0 1 8; pattern b 7 5 3 1;");
        CHECK.due("00000018", 1, z.swaps(0));
        CHECK.due("7531", 6, z.swaps(1));
    }

    private static void ways() {
        StateJuggler x = new StateJuggler();
        CHECK.due("1, 7, 7", 1, x.ways(1, 7, 7, -1));
        CHECK.due("1, 6, 7", 0, x.ways(1, 6, 7, -1));
        CHECK.due("1, 7, 3", 1, x.ways(1, 7, 3, -1));
        CHECK.due("1, 7, 3: it", 3, x.ways(1, 7, 3, 0));
        CHECK.due("1, 6, 7, 0", -2, x.ways(1, 6, 7, 0));
        // 3 HEIGHTS that keep 1: 111, 003, 030, 300, 012 in the rows that close: 0 1 2 -> 0, 2, 1; 0 2 1 -> 0, 0
        CHECK.due("3, 7, 1", 7, x.ways(3, 7, 1, -1));
        CHECK.due("3, 7, 1: first", 0, x.ways(3, 7, 1, 0));
        CHECK.due("3, 7, 1: second", 0, x.ways(3, 7, 1, 1));
        CHECK.due("3, 7, 1: third", 3, x.ways(3, 7, 1, 2));
        CHECK.due("3, 2, 1: first", 0, x.ways(3, 2, 1, 0));
        CHECK.due("3, 2, 1: second", 1, x.ways(3, 2, 1, 1));
        CHECK.due("3, 2, 1: third", 2, x.ways(3, 2, 1, 2));
        CHECK.due("5, 7, 0", 1, x.ways(5, 7, 0, -1));
        CHECK.due("5, 1, 1", 1, x.ways(5, 1, 1, -1));
        // (k + 1)^p - k^p rows, if no height is ruled out
        CHECK.due("5, 7, 1", 31, x.ways(5, 7, 1, -1));
        CHECK.due("2, 7, 3", 7, x.ways(2, 7, 3, -1));
        CHECK.due("3, 7, 2", 19, x.ways(3, 7, 2, -1));
        CHECK.due("5, 7, 7", 1, x.ways(5, 7, 7, -1));
        CHECK.due("p 0", -1, x.ways(0, 7, 1, -1));
        CHECK.due("p 6", -1, x.ways(6, 7, 1, -1));
        CHECK.due("m 0", -1, x.ways(2, 0, 0, -1));
        CHECK.due("m 8", -1, x.ways(2, 8, 0, -1));
        CHECK.due("k -1", -1, x.ways(2, 1, -1, -1));
        CHECK.due("k 8", -1, x.ways(2, 1, 8, -1));
        CHECK.due("i -2", -1, x.ways(2, 1, 1, -2));
        CHECK.due("i 2 of 2", -1, x.ways(2, 1, 1, 2));
        CHECK.due("i 2 of 2, none there", -1, x.ways(2, 1, 7, 2));
        CHECK.due("i 1 of 2, none there", -2, x.ways(2, 1, 7, 1));
        CHECK.due("most of all", -1, x.ways(Integer.MAX_VALUE, Integer.MAX_VALUE, Integer.MAX_VALUE, 3));
    }
}
