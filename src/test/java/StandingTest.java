/** Promises 6 to 8 and 43: thing, pattern, tells, count. */
final class StandingTest {
    private static final Check CHECK = new Check();

    public static void main(String[] args) {
        things();
        patterns();
        tellsOfOne();
        lawsAreReckoned();
        lawsOneByOne();
        lawsAreHeld();
        varsAreNow();
        counts();
        CHECK.end();
    }

    private static void things() {
        StateJuggler x = CHECK.told("thing a 2 3 0; thing b 9 0 9; thing c 1 9 0; pattern p 0 5;");
        CHECK.due("a weight", 2, x.thing(0, 0));
        CHECK.due("a edge", 3, x.thing(0, 1));
        CHECK.due("a up", 0, x.thing(0, 2));
        CHECK.due("a lands", 0, x.thing(0, 3));
        CHECK.due("a caught", 0, x.thing(0, 4));
        CHECK.due("b lands", 9, x.thing(1, 3));
        CHECK.due("what -1", -1, x.thing(0, -1));
        CHECK.due("what 5", -1, x.thing(0, 5));
        CHECK.due("thing -1", -1, x.thing(-1, 0));
        CHECK.due("thing 3", -1, x.thing(3, 0));
        CHECK.due("thing least", -1, x.thing(Integer.MIN_VALUE, 0));
        x.beats(1);
        // a and c landed together: a was laid down by height 0, c dropped
        CHECK.due("a laid", 1, x.thing(0, 2));
        CHECK.due("a lands no more", -2, x.thing(0, 3));
        CHECK.due("a caught once", 1, x.thing(0, 4));
        CHECK.due("c dropped", 2, x.thing(2, 2));
        CHECK.due("c lands no more", -2, x.thing(2, 3));
        CHECK.due("c never caught", 0, x.thing(2, 4));
        CHECK.due("b lands sooner", 8, x.thing(1, 3));
        x.throwIn(0, 0);
        x.beats(1);
        CHECK.due("a caught twice", 2, x.thing(0, 4));
        CHECK.due("a thrown to 5", 4, x.thing(0, 3));
    }

    private static void patterns() {
        StateJuggler x = CHECK.told("pattern p 0 9 4; pattern q 7;");
        CHECK.due("p length", 3, x.pattern(0, -1));
        CHECK.due("q length", 1, x.pattern(1, -1));
        CHECK.due("p 0", 0, x.pattern(0, 0));
        CHECK.due("p 1", 9, x.pattern(0, 1));
        CHECK.due("p 2", 4, x.pattern(0, 2));
        CHECK.due("p 3", -1, x.pattern(0, 3));
        CHECK.due("p -2", -1, x.pattern(0, -2));
        CHECK.due("q 1", -1, x.pattern(1, 1));
        CHECK.due("no pattern 2", -1, x.pattern(2, 0));
        CHECK.due("no pattern -1", -1, x.pattern(-1, -1));
        CHECK.due("p most", -1, x.pattern(0, Integer.MAX_VALUE));
    }

    private static void tellsOfOne() {
        StateJuggler x = CHECK.told("thing a 2 3 0; thing b 4 5 1; tires = height * weight; drops = height + 10;"
                + "force = edge - height - 9; pays = edge + height;");
        CHECK.due("tires", 8, x.tells(1, 2, 0));
        CHECK.due("tires 9", 36, x.tells(1, 9, 0));
        CHECK.due("tires 0", 0, x.tells(1, 0, 0));
        CHECK.due("drops", 17, x.tells(0, 7, 1));
        CHECK.due("force at height 0", -6, x.tells(0, 7, 2));
        CHECK.due("pays at height 0", 5, x.tells(1, 7, 3));
        CHECK.due("height -1", -100, x.tells(0, -1, 0));
        CHECK.due("height 10", -100, x.tells(0, 10, 1));
        CHECK.due("force, height not looked at", -6, x.tells(0, -1, 2));
        CHECK.due("pays, height not looked at", 3, x.tells(0, 10, 3));
        CHECK.due("what -1", -100, x.tells(0, 1, -1));
        CHECK.due("what 4", -100, x.tells(0, 1, 4));
        CHECK.due("thing -1", -100, x.tells(-1, 1, 0));
        CHECK.due("thing 2", -100, x.tells(2, 1, 2));
    }

    /** What FORCE, held to -99 .. 99, tells of a THING of weight 2 and edge 3. */
    private static void force(String law, int want) {
        StateJuggler x = CHECK.told("thing a 2 3 0; force = " + law + ";");
        CHECK.due("force = " + law, want, x.tells(0, 0, 2));
    }

    private static void lawsAreReckoned() {
        force("1 + 2 * 3", 7);
        force("(1 + 2) * 3", 9);
        force("10 - 4 - 3", 3);
        force("60 / 6 / 2", 5);
        force("60 / 6 * 2", 20);
        force("7 / 2", 3);
        force("(0 - 7) / 2", -3);
        force("7 / (0 - 2)", -3);
        force("2 - 3 * 4 + 1", -9);
        force("((((((weight * edge))))))", 6);
        force("1 / 0", 0);
        force("50 + 1 / 0", 0);
        force("50 + 0 * (1 / (edge - 3))", 0);
        // wraps: not 999700029999, but -1027349969
        force("9999 * 9999 * 9999 / (9999 * 2000)", (int) (9999L * 9999 * 9999) / (9999 * 2000));
        force("9999 * 9999 * 40 / 9999 / 9999", (int) (9999L * 9999 * 40) / 9999 / 9999);
        // the least int by -1 wraps to itself
        force("if 1024 * 1024 * 2048 / (0 - 1) < 0 then 5 else 6", 5);
        force("if 2 < 3 then 4 else 5", 4);
        force("if 3 < 3 then 4 else 5", 5);
        force("if 4 < 3 then 4 else 5", 5);
        force("if 2 < 1 then 4 else if 1 < 2 then 6 else if 1 < 3 then 7 else 8", 6);
        force("if 2 < 1 then 4 else if 2 < 1 then 6 else if 2 < 1 then 7 else if 2 < 1 then 8 else 9", 9);
        force("if 2 < 1 then 4 else if 2 < 1 then 6 else if 2 < 1 then 7 else if 0 < 1 then 8 else 9", 8);
        // what is not looked at may be divided by 0
        force("if 1 < 2 then 4 else 1 / 0", 4);
        force("if 2 < 1 then 1 / 0 else 5", 5);
        force("if 1 < 2 then 4 else if 1 / 0 < 1 then 5 else 6", 4);
        force("if 1 / 0 < 1 then 4 else 5", 0);
        force("if 0 < 1 / 0 then 4 else 5", 0);
        force("if 2 < 1 then 4 else if 1 / 0 < 1 then 5 else 6", 0);
        force("if 1 < 2 then 1 / 0 else 5", 0);
        force("1+(1*(1+(1*(1+(1*(1+1*2))))))-1", 5);
    }

    /** A LAW that fails leaves nothing behind for the next one; the longest one is worked out whole. */
    private static void lawsOneByOne() {
        StateJuggler x = CHECK.told("thing a 2 3 0; force = 1 + (2 + (3 + 1 / (edge - 3))); pays = 1 + 2 * weight;");
        for (int i = 0; i < 40; i++) {
            CHECK.due("divided by 0", 0, x.tells(0, 0, 2));
            CHECK.due("the next law", 5, x.tells(0, 0, 3));
        }
        StateJuggler y = CHECK.told("thing a 2 3 0; force=1" + "-1".repeat(45) + ";tires=1" + "+0".repeat(140) + "+6;");
        CHECK.due("long", -44, y.tells(0, 0, 2));
        CHECK.due("longest", 7, y.tells(0, 0, 0));
        StateJuggler z = CHECK.told("thing a 2 3 0; pays = 4; pays=1" + "+0".repeat(192) + "+4;");
        CHECK.due("the last one", 5, z.tells(0, 0, 3));
    }

    private static void lawsAreHeld() {
        StateJuggler low = CHECK.told("thing a 2 3 0; tires = 0 - 1; drops = 0 - 5; force = 0 - 100; pays = 0 - 1;");
        CHECK.due("least tires", 0, low.tells(0, 1, 0));
        CHECK.due("least drops", 0, low.tells(0, 1, 1));
        CHECK.due("least force", -99, low.tells(0, 1, 2));
        CHECK.due("least pays", 0, low.tells(0, 1, 3));
        StateJuggler high = CHECK.told("thing a 2 3 0; tires = 100; drops = 101; force = 100; pays = 100;");
        CHECK.due("most tires", 99, high.tells(0, 1, 0));
        CHECK.due("most drops", 100, high.tells(0, 1, 1));
        CHECK.due("most force", 99, high.tells(0, 1, 2));
        CHECK.due("most pays", 99, high.tells(0, 1, 3));
    }

    private static void varsAreNow() {
        StateJuggler x = CHECK.told("thing a 2 3 0; thing b 4 5 1; thing c 1 1 1; pattern p 2; tires = 6;"
                + "force = beat * 10 + hand; pays = if which < 1 then tired else caught; drops = up * 10 + which;");
        CHECK.due("beat 0, right hand", 0, x.tells(0, 0, 2));
        CHECK.due("up and which", 31, x.tells(1, 0, 1));
        x.beats(1);
        CHECK.due("beat 1, left hand", 11, x.tells(0, 0, 2));
        CHECK.due("tired", 6, x.tells(0, 0, 3));
        CHECK.due("caught", 1, x.tells(1, 0, 3));
        // b and c land now; as long as the beat has not gone by, both are UP
        CHECK.due("up ahead of a clash", 32, x.tells(2, 0, 1));
        x.beats(1);
        CHECK.due("up behind a clash, of one dropped", 22, x.tells(2, 0, 1));
        CHECK.due("beat 2, right hand", 20, x.tells(0, 0, 2));
        CHECK.due("tired by two", 12, x.tells(0, 0, 3));
        CHECK.due("caught two", 2, x.tells(2, 0, 3));
        // one that is caught and then dropped by DROPS is not caught by him
        StateJuggler y = CHECK.told("thing a 1 1 0; thing b 1 1 1; drops = if which < 1 then 100 else 0;"
                + "force = caught;");
        y.beats(2);
        CHECK.due("one dropped by DROPS, one caught", 1, y.tells(0, 0, 2));
        CHECK.due("the same by count", 1, y.count(7));
    }

    private static void counts() {
        StateJuggler x = CHECK.told("thing a 2 3 0; thing b 4 5 0; thing c 8 1 5; thing d 1 1 1; pattern p 0 3;"
                + "pattern q 4 5; tires = 10; pays = 7; rests 4;");
        int[] first = {4, 2, 0, 0, 15, 0, 0, 0, 0, 0, 0, 0, 0, 0, 0, 15, 0, 0};
        for (int what = 0; what < first.length; what++) {
            CHECK.due("count " + what, first[what], x.count(what));
        }
        CHECK.due("count -1", -1, x.count(-1));
        CHECK.due("count 18", -1, x.count(18));
        CHECK.due("count least", -1, x.count(Integer.MIN_VALUE));
        CHECK.due("count most", -1, x.count(Integer.MAX_VALUE));
        // a laid, b dropped; d thrown to 3; a beat of rest
        x.beats(3);
        x.use(1);
        x.set(9);
        x.tell(0, true);
        x.hold(2);
        x.hold(0);
        x.feed(0, 0, 0, 0, 0);
        int[] later = {4, 2, 3, 16, 12, 2, 1, 2, 14, 1, 9, 20, 3, 1, 2, 9, 4, 1};
        for (int what = 0; what < later.length; what++) {
            CHECK.due("later: count " + what, later[what], x.count(what));
        }
        // dropped so far counts each time, dropped now only those that lie there
        x.back(20);
        x.throwIn(1, 1);
        x.beats(2);
        CHECK.due("dropped so far", 2, x.count(6));
        CHECK.due("dropped now", 8, x.count(5));
        CHECK.due("weights dropped now", 1, x.count(16));
        CHECK.due("weights up", 12, x.count(15));
    }
}
