/** Promises 9 to 13, 41 and 42: throwIn, use, set, beats, undo, hold, restore. */
final class DoneTest {
    private static final Check CHECK = new Check();

    public static void main(String[] args) {
        throwingIn();
        using();
        setting();
        beatsGoBy();
        clashes();
        dropsByLot();
        tiring();
        askedAsTheBeatBegan();
        undoing();
        undoingAll();
        holding();
        CHECK.end();
    }

    private static void throwingIn() {
        StateJuggler x = CHECK.told("thing a 1 1 0; thing b 1 1 0; pattern p 0;");
        CHECK.due("a is up", false, x.throwIn(0, 3));
        x.beats(1);
        CHECK.due("n -1", false, x.throwIn(0, -1));
        CHECK.due("n 10", false, x.throwIn(0, 10));
        CHECK.due("thing -1", false, x.throwIn(-1, 1));
        CHECK.due("thing 2", false, x.throwIn(2, 1));
        CHECK.due("one thing done", 1, x.count(12));
        CHECK.due("laid one", true, x.throwIn(0, 0));
        CHECK.due("dropped one", true, x.throwIn(1, 9));
        CHECK.due("a again", false, x.throwIn(0, 0));
        CHECK.due("three things done", 3, x.count(12));
        CHECK.due("both up", 3, x.count(4));
        CHECK.due("none dropped now", 0, x.count(5));
        CHECK.due("one dropped so far", 1, x.count(6));
        CHECK.due("lands", 0x201, x.lands());
        x.beats(1);
        CHECK.due("a caught again", 2, x.thing(0, 4));
    }

    private static void using() {
        StateJuggler x = CHECK.told("pattern p 1 2 3; pattern q 4 5;");
        CHECK.due("first height", 1, x.count(10));
        x.beats(1);
        CHECK.due("second height", 2, x.count(10));
        CHECK.due("use -1", false, x.use(-1));
        CHECK.due("use 2", false, x.use(2));
        CHECK.due("still p", 0, x.count(9));
        CHECK.due("use q", true, x.use(1));
        CHECK.due("q in use", 1, x.count(9));
        CHECK.due("q's first height, at beat 1", 4, x.count(10));
        x.beats(3);
        CHECK.due("q's second height, at beat 4", 5, x.count(10));
        CHECK.due("use q anew", true, x.use(1));
        CHECK.due("q's first height again", 4, x.count(10));
        x.set(7);
        CHECK.due("use p with a height set", true, x.use(0));
        CHECK.due("the height set stays", 7, x.count(10));
        x.beats(1);
        CHECK.due("p's second height", 2, x.count(10));
        StateJuggler none = new StateJuggler();
        CHECK.due("use without patterns", false, none.use(0));
    }

    private static void setting() {
        StateJuggler x = CHECK.told("thing a 1 1 0; pattern p 3;");
        CHECK.due("set -1", false, x.set(-1));
        CHECK.due("set 10", false, x.set(10));
        CHECK.due("nothing done", 0, x.count(12));
        CHECK.due("set alike", true, x.set(3));
        CHECK.due("set so already", false, x.set(3));
        CHECK.due("set another", true, x.set(0));
        CHECK.due("set so already", false, x.set(0));
        CHECK.due("set 9", true, x.set(9));
        CHECK.due("three done", 3, x.count(12));
        x.beats(1);
        CHECK.due("thrown to 9", 8, x.thing(0, 3));
        CHECK.due("for that beat alone", 3, x.count(10));
        CHECK.due("set 9 in the next beat", true, x.set(9));
        x.beats(2);
        CHECK.due("for one of two beats alone", 3, x.count(10));
    }

    private static void beatsGoBy() {
        StateJuggler x = CHECK.told("thing a 1 1 0; thing b 1 1 1; thing c 1 1 2; pattern p 4 4 1;");
        CHECK.due("beats -1", -1, x.beats(-1));
        CHECK.due("beats 61", -1, x.beats(61));
        CHECK.due("beats 0", 0, x.beats(0));
        CHECK.due("nothing done", 0, x.count(12));
        CHECK.due("beats 1", 1, x.beats(1));
        CHECK.due("a lands in 3", 3, x.thing(0, 3));
        CHECK.due("b lands in 0", 0, x.thing(1, 3));
        CHECK.due("beats 2", 3, x.beats(2));
        // 4 4 1 from beats 0, 1, 2 on: a lands at 4, b at 5, c at 3
        CHECK.due("a", 1, x.thing(0, 3));
        CHECK.due("b", 2, x.thing(1, 3));
        CHECK.due("c", 0, x.thing(2, 3));
        CHECK.due("beats 60", 63, x.beats(60));
        CHECK.due("all caught", 63, x.count(7));
        CHECK.due("all up", 7, x.count(4));
        CHECK.due("two done", 3, x.count(12));
        StateJuggler y = CHECK.told("thing a 1 1 0;");
        y.beats(3);
        CHECK.due("height 3 without patterns", 0, y.thing(0, 3));
        StateJuggler z = CHECK.told("thing a 1 1 0; pattern p 1 0;");
        z.beats(1);
        CHECK.due("height 1: the next beat", 0, z.thing(0, 3));
        z.beats(1);
        CHECK.due("height 0: laid", 1, z.thing(0, 2));
        CHECK.due("laid is caught", 2, z.count(7));
        z.beats(5);
        CHECK.due("laid stays", 2, z.count(17) + z.count(4) + 1);
    }

    private static void clashes() {
        StateJuggler x = CHECK.told("thing a 1 1 2; thing b 1 1 0; thing c 1 1 0; thing d 1 1 0; pattern p 2; pays = 3;");
        x.beats(1);
        CHECK.due("c and d dropped", 12, x.count(5));
        CHECK.due("two dropped", 2, x.count(6));
        CHECK.due("b caught", 1, x.thing(1, 4));
        CHECK.due("paid for one", 3, x.count(8));
        x.beats(2);
        CHECK.due("then b by a", 14, x.count(5));
        CHECK.due("a is the first", 1, x.thing(0, 4));
    }

    private static void dropsByLot() {
        // LOT 100 of 0 and 4 * the beat: 47, 80, 6, 51, 76, 89, 23, 43, 77, 10
        StateJuggler x = CHECK.told("thing a 1 1 0; pattern p 1; drops = 6; tires = 2; pays = 5;");
        x.beats(10);
        CHECK.due("6 is not less than 6", 10, x.count(7));
        x = CHECK.told("thing a 1 1 0; pattern p 1; drops = 7; tires = 2; pays = 5; rests 0;");
        x.beats(2);
        CHECK.due("not yet", 1, x.count(4));
        x.beats(1);
        CHECK.due("6 is less than 7", 1, x.count(5));
        CHECK.due("dropped one", 1, x.count(6));
        CHECK.due("caught two", 2, x.count(7));
        CHECK.due("not thrown: not more tired", 4, x.count(3));
        CHECK.due("not paid", 10, x.count(8));
        CHECK.due("it was caught twice and not dropped", 2, x.thing(0, 4));
        // in a beat in which one is dropped he does not rest
        x = CHECK.told("thing a 1 1 0; pattern p 1; drops = 7; tires = 2; rests 1;");
        x.beats(3);
        CHECK.due("no rest with something in hand", 4, x.count(3));
        x.beats(1);
        CHECK.due("rest with nothing in hand", 3, x.count(3));
        // LOT 100 of 7: 97, 88, 31, 78, 18
        x = CHECK.told("thing a 1 1 0; pattern p 1; drops = 31; seed 7;");
        x.beats(4);
        CHECK.due("by seed 7 not yet", 1, x.count(4));
        x.beats(1);
        CHECK.due("by seed 7 the fifth", 0, x.count(4));
        CHECK.due("by seed 7 four caught", 4, x.count(7));
        // by height: the PATTERN's, or the one set
        x = CHECK.told("thing a 1 1 0; pattern p 1 2; drops = if height < 2 then 0 else 100;");
        x.beats(1);
        CHECK.due("height 1 is safe", 1, x.count(4));
        x.set(1);
        x.beats(1);
        CHECK.due("height 1 set is safe", 1, x.count(4));
        x.beats(1);
        x.beats(1);
        CHECK.due("height 2 is not", 0, x.count(4));
    }

    private static void tiring() {
        StateJuggler x = CHECK.told("thing a 3 1 0; pattern p 1; tires = height * weight + 90; rests 99;");
        x.beats(1);
        CHECK.due("as TIRES tells", 93, x.count(3));
        x.beats(9);
        CHECK.due("ten times", 930, x.count(3));
        x.beats(1);
        CHECK.due("999 at most", 999, x.count(3));
        x.set(0);
        x.beats(1);
        CHECK.due("still", 999, x.count(3));
        x.beats(1);
        CHECK.due("rests 99", 900, x.count(3));
        x.beats(9);
        CHECK.due("rests on", 9, x.count(3));
        x.beats(1);
        CHECK.due("0 at least", 0, x.count(3));
        StateJuggler y = CHECK.told("thing a 1 1 0; pattern p 2; tires = 5;");
        y.beats(2);
        CHECK.due("rests 1 if not told", 4, y.count(3));
    }

    private static void askedAsTheBeatBegan() {
        // up: less by those of the clash, not by the one in hand; caught and tired: as they were
        StateJuggler x = CHECK.told("thing a 1 1 0; thing b 1 1 0; thing c 1 1 0; thing d 1 1 5; pattern p 3;"
                + "pays = up * 10 + caught; tires = up;");
        x.beats(1);
        CHECK.due("pays by up 2, caught 0", 20, x.count(8));
        CHECK.due("tires by up 2", 2, x.count(3));
        StateJuggler flat = CHECK.told("thing a 1 1 0; pattern p 4; pays = height + 5;");
        flat.beats(1);
        CHECK.due("pays at height 0", 5, flat.count(8));
        StateJuggler y = CHECK.told("thing a 1 1 0; pattern p 1; pays = tired; tires = 7 + tired;");
        y.beats(1);
        CHECK.due("not tired as it began", 0, y.count(8));
        y.beats(1);
        CHECK.due("tired by 7 as it began", 7, y.count(8));
        CHECK.due("7 and 14", 21, y.count(3));
        StateJuggler z = CHECK.told("thing a 1 1 1; pattern p 1; pays = beat * 10 + hand; tires = hand;");
        z.beats(3);
        CHECK.due("beats 1 and 2", 31, z.count(8));
        CHECK.due("the left hand once", 1, z.count(3));
    }

    private static void undoing() {
        StateJuggler x = CHECK.told("thing a 2 1 0; thing b 3 1 0; pattern p 2; pattern q 3 1; tires = 5; pays = 4;");
        CHECK.due("nothing to undo", false, x.undo());
        x.beats(3);
        x.throwIn(1, 4);
        x.use(1);
        x.set(7);
        CHECK.due("four to undo", 4, x.count(12));
        CHECK.due("undo set", true, x.undo());
        CHECK.due("q's height", 3, x.count(10));
        CHECK.due("undo use", true, x.undo());
        CHECK.due("p in use", 0, x.count(9));
        CHECK.due("undo throwIn", true, x.undo());
        CHECK.due("b is dropped", 2, x.thing(1, 2));
        CHECK.due("undo beats", true, x.undo());
        int[] counts = {2, 2, 0, 0, 3, 0, 0, 0, 0, 0, 2, 0, 0, 0, 0, 5, 0, 0};
        for (int what = 0; what < counts.length; what++) {
            CHECK.due("all undone: count " + what, counts[what], x.count(what));
        }
        CHECK.due("a lands now again", 0, x.thing(0, 3));
        CHECK.due("a not caught again", 0, x.thing(0, 4));
        CHECK.due("no more to undo", false, x.undo());
        x.set(5);
        x.beats(1);
        CHECK.due("undo a beat", true, x.undo());
        CHECK.due("set as it was", 5, x.count(10));
        CHECK.due("set so already, still", false, x.set(5));
        x.tell(0, true);
        x.undo();
        CHECK.due("what is told stays", 1, x.count(13));
    }

    private static void undoingAll() {
        StateJuggler x = CHECK.told("thing a 2 1 0; pattern p 1;");
        for (int i = 0; i < 45; i++) {
            x.beats(1);
        }
        CHECK.due("40 at most", 40, x.count(12));
        for (int i = 0; i < 40; i++) {
            CHECK.due("undo " + i, true, x.undo());
            CHECK.due("beat " + i, 44 - i, x.count(2));
        }
        CHECK.due("the 41st", false, x.undo());
        CHECK.due("beat 5 stays", 5, x.count(2));
        CHECK.due("as often caught", 5, x.thing(0, 4));
    }

    private static void holding() {
        StateJuggler x = CHECK.told("thing a 2 1 0; thing b 1 1 1; pattern p 2; pattern q 0; tires = 3; pays = 2;");
        CHECK.due("hold -1", false, x.hold(-1));
        CHECK.due("hold 3", false, x.hold(3));
        CHECK.due("restore -1", false, x.restore(-1));
        CHECK.due("restore 3", false, x.restore(3));
        CHECK.due("nothing held", false, x.restore(0));
        x.beats(3);
        x.set(6);
        CHECK.due("hold 0", true, x.hold(0));
        CHECK.due("held is no thing done", 2, x.count(12));
        CHECK.due("one slot", 1, x.count(14));
        x.use(1);
        x.beats(5);
        x.tell(7, false);
        x.feed(0, 0, 0, 0, 0);
        CHECK.due("restore 1", false, x.restore(1));
        CHECK.due("four done", 4, x.count(12));
        CHECK.due("restore 0", true, x.restore(0));
        int[] counts = {2, 2, 3, 9, 3, 0, 0, 3, 6, 0, 6, 20, 0, 1, 1, 3, 0, 0};
        for (int what = 0; what < counts.length; what++) {
            CHECK.due("restored: count " + what, counts[what], x.count(what));
        }
        CHECK.due("nothing undone then", false, x.undo());
        x.beats(1);
        CHECK.due("undo behind it", true, x.undo());
        CHECK.due("the set one is back", 6, x.count(10));
        x.beats(9);
        CHECK.due("it stays there", true, x.restore(0));
        CHECK.due("beat 3 again", 3, x.count(2));
        x.beats(1);
        CHECK.due("hold anew", true, x.hold(0));
        x.beats(4);
        CHECK.due("hold 2", true, x.hold(2));
        CHECK.due("two slots", 2, x.count(14));
        x.restore(0);
        CHECK.due("beat 4", 4, x.count(2));
        x.restore(2);
        CHECK.due("beat 8", 8, x.count(2));
    }
}
