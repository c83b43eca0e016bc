/** Promises 25, 26, 32 and 34 to 36, all with drops by DROPS: handover, limit, light, down, then, year. */
final class BeatsAheadTest {
    private static final Check CHECK = new Check();

    public static void main(String[] args) {
        handovers();
        limits();
        lights();
        downs();
        thens();
        years();
        CHECK.end();
    }

    private static void handovers() {
        CHECK.due("nothing up", 0, new StateJuggler().handover());
        StateJuggler c = CHECK.told("thing a 1 1 4; thing b 1 1 0; thing c 1 1 8; pattern p 3;");
        CHECK.due("c at 8", 9, c.handover());
        // b at 9 with c: c is dropped and not caught
        StateJuggler x = CHECK.told("thing a 1 1 4; thing b 1 1 0; thing c 1 1 9; pattern p 3;");
        CHECK.due("b is at 9 too", -2, x.handover());
        x.beats(10);
        CHECK.due("c is not up now", 3, x.handover());
        // dropped by DROPS, but CAUGHT
        StateJuggler y = CHECK.told("thing a 1 1 0; thing b 1 1 3; drops = 100;");
        CHECK.due("caught and then dropped", 4, y.handover());
        // b lands in the beat of a: but for a's drop at 0
        StateJuggler z = CHECK.told("thing a 1 1 0; thing b 1 1 3; pattern p 3; drops = if beat < 1 then 100 else 0;");
        CHECK.due("a dropped in time", 4, z.handover());
        StateJuggler w = CHECK.told("thing a 1 1 0; thing b 1 1 3; pattern p 3;");
        CHECK.due("a not dropped", -2, w.handover());
        w.set(2);
        CHECK.due("a set to 2", 4, w.handover());
    }

    private static void limits() {
        StateJuggler x = CHECK.told("thing a 1 1 0; pattern p 2; tires = 6; rests 1;");
        CHECK.due("0 now", 0, x.limit(0));
        CHECK.due("1", 1, x.limit(1));
        CHECK.due("6", 1, x.limit(6));
        // 6, 5, 11, 10, 16
        CHECK.due("7", 3, x.limit(7));
        CHECK.due("12", 5, x.limit(12));
        // 1 + 5 * k behind 2 * k - 1: behind 199 it is 501
        CHECK.due("501", 199, x.limit(501));
        CHECK.due("502", -2, x.limit(502));
        CHECK.due("999", -2, x.limit(999));
        CHECK.due("-1", -1, x.limit(-1));
        CHECK.due("1000", -1, x.limit(1000));
        StateJuggler y = CHECK.told("thing a 1 1 0; pattern p 1; tires = 5;");
        CHECK.due("999 at most", 200, y.limit(999));
        y.beats(1);
        CHECK.due("behind a beat", 199, y.limit(999));
        StateJuggler z = CHECK.told("thing a 1 1 0; pattern p 1; tires = 5; drops = 7;");
        // LOT 100 of 0: 47, 80, 6
        CHECK.due("two throws", 2, z.limit(10));
        CHECK.due("no third", -2, z.limit(11));
    }

    private static void lights() {
        StateJuggler x = CHECK.told("thing a 1 1 0; thing b 1 1 1; thing c 1 1 2; pattern bad 4 3 2; pattern two 2;"
                + "pattern cas 3; pattern half 4 4 1; pattern show 5 3 1; tires = height;");
        // 9 alike in three beats; 4 by 441, 3 by 3, 5 by 531 in one
        CHECK.due("one beat: 3", 2, x.light(1, 0));
        CHECK.due("one beat: tired", 3, x.light(1, 1));
        CHECK.due("three beats: the first", 2, x.light(3, 0));
        CHECK.due("three beats: tired", 9, x.light(3, 1));
        CHECK.due("n 0", -1, x.light(0, 0));
        CHECK.due("n 61", -1, x.light(61, 0));
        CHECK.due("what -1", -1, x.light(1, -1));
        CHECK.due("what 2", -1, x.light(1, 2));
        CHECK.due("p in use", 0, x.count(9));
        x.set(9);
        CHECK.due("the height set for all", 2, x.light(1, 0));
        CHECK.due("the height set tires", 9, x.light(1, 1));
        x.undo();
        x.beats(1);
        // by 432 a is at 4, two are up with it; it comes into use from here on
        CHECK.due("from beat 1 on: 3", 2, x.light(1, 0));
        CHECK.due("from beat 1 on: tired by 4 and 3", 7, x.light(1, 1));
        StateJuggler none = CHECK.told("thing a 1 1 0; pattern p 2; pattern q 4 3 2;");
        CHECK.due("none keeps 1", -2, none.light(1, 0));
        CHECK.due("none keeps 1: tired", -2, none.light(1, 1));
        // how many are UP counts, and drops are by DROPS
        StateJuggler y = CHECK.told("thing a 1 1 0; thing b 1 1 0; pattern p 2; pattern q 1; pattern r 2 0;"
                + "tires = 4 + height; drops = if height < 2 then 100 else 0; rests 2;");
        y.beats(1);
        CHECK.due("one is up", 1, y.count(4));
        y.beats(1);
        // 6 less 2 by two beats: q drops it at once
        CHECK.due("q", 1, y.light(2, 0));
        CHECK.due("q: tired by 6, less 2, less 2", 2, y.light(2, 1));
        StateJuggler empty = CHECK.told("thing a 1 1 0; pattern p 0; pattern q 0 0; tires = 9; rests 4;");
        empty.beats(1);
        CHECK.due("0 for none up", 0, empty.light(2, 0));
        CHECK.due("0 for none up: tired", 1, empty.light(2, 1));
    }

    private static void downs() {
        CHECK.due("now", 0, new StateJuggler().down());
        StateJuggler x = CHECK.told("thing a 1 1 0; thing b 1 1 9; pattern p 0;");
        CHECK.due("all laid", 10, x.down());
        StateJuggler y = CHECK.told("thing a 1 1 0; pattern p 1;");
        CHECK.due("not", -2, y.down());
        y.set(0);
        CHECK.due("set down", 1, y.down());
        // LOT 100 of 0 and 4 * 23 is 3, all ahead of it 5 or more
        StateJuggler z = CHECK.told("thing a 1 1 0; pattern p 1; drops = 4;");
        CHECK.due("dropped by lot", 24, z.down());
        CHECK.due("it is up yet", 1, z.count(4));
        StateJuggler late = CHECK.told("thing a 1 1 0; pattern p 1; drops = if beat < 199 then 0 else 100;");
        CHECK.due("at 200", 200, late.down());
        StateJuggler later = CHECK.told("thing a 1 1 0; pattern p 1; drops = if beat < 200 then 0 else 100;");
        CHECK.due("at 201", -2, later.down());
    }

    private static void thens() {
        StateJuggler x = CHECK.told("thing a 1 2 0; thing b 1 3 0; pattern p 2; tires = 5; pays = edge; rests 2;");
        x.beats(1);
        CHECK.due("now tired", 5, x.then(0, 0));
        CHECK.due("now up", 1, x.then(0, 1));
        CHECK.due("now dropped no more", 0, x.then(0, 2));
        CHECK.due("now earned no more", 0, x.then(0, 3));
        CHECK.due("1 tired", 3, x.then(1, 0));
        CHECK.due("2 tired", 8, x.then(2, 0));
        CHECK.due("60 earned", 60, x.then(60, 3));
        CHECK.due("60 up", 1, x.then(60, 1));
        CHECK.due("n -1", -1, x.then(-1, 0));
        CHECK.due("n 61", -1, x.then(61, 0));
        CHECK.due("what -1", -1, x.then(1, -1));
        CHECK.due("what 4", -1, x.then(1, 4));
        StateJuggler y = CHECK.told("thing a 1 2 0; thing b 1 3 0; thing c 1 3 1; pattern p 2; drops = 50; pays = 9;");
        // LOT 100 of 0: 47, 80: a is dropped by lot, b by the clash; c is not
        CHECK.due("dropped by both", 2, y.then(2, 2));
        CHECK.due("c is up", 1, y.then(2, 1));
        CHECK.due("c is paid", 9, y.then(2, 3));
        CHECK.due("in one beat", 2, y.then(1, 2));
    }

    private static void years() {
        // LOT 100 in the first beats: 9999: 59 70 58 85 60 39; 10000: 0 52 46 61 47 7; 10001: 58 55 60 33 78 62
        StateJuggler x = CHECK.told("thing a 1 1 0; pattern p 1; drops = 40; seed 9999;");
        CHECK.due("no beats", 20, x.year(0, 20));
        CHECK.due("9999, five beats", 1, x.year(5, 1));
        CHECK.due("9999, six beats", 0, x.year(6, 1));
        CHECK.due("and 10000", 1, x.year(5, 2));
        CHECK.due("and 10001, four beats", 1, x.year(4, 3));
        CHECK.due("and 10001, three beats", 2, x.year(3, 3));
        CHECK.due("n -1", -1, x.year(-1, 1));
        CHECK.due("n 61", -1, x.year(61, 1));
        CHECK.due("s 0", -1, x.year(1, 0));
        CHECK.due("s 21", -1, x.year(1, 21));
        // those of a clash count, those that lie there already do not
        StateJuggler y = CHECK.told("thing a 1 1 0; thing b 1 1 0;");
        CHECK.due("a clash", 0, y.year(1, 20));
        y.beats(1);
        CHECK.due("nothing more", 20, y.year(60, 20));
        CHECK.due("no thing", 7, new StateJuggler().year(60, 7));
    }
}
