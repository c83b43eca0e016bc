/** Promises 15 to 18, 24, 27 to 30 and 33: lands, inHand, clash, into, room, busiest, load, gap, order, rule. */
final class AheadTest {
    private static final Check CHECK = new Check();

    public static void main(String[] args) {
        landing();
        inHand();
        clashing();
        into();
        intoWays();
        rooms();
        roomSixty();
        busiest();
        loads();
        gaps();
        orders();
        rules();
        nothingHappens();
        CHECK.end();
    }

    private static void landing() {
        StateJuggler x = CHECK.told("thing a 1 1 9; thing b 1 1 0; thing c 1 1 4; thing d 1 1 4; pattern p 0;");
        CHECK.due("bits 0, 4, 9", 0x211, x.lands());
        x.beats(1);
        CHECK.due("b is laid", 0x108, x.lands());
        x.beats(9);
        CHECK.due("nothing lands", 0, x.lands());
    }

    private static void inHand() {
        StateJuggler x = CHECK.told("thing a 1 1 0; thing b 1 1 2; pattern p 3 1; drops = 100;");
        CHECK.due("n -1", -1, x.inHand(-1));
        CHECK.due("n 61", -1, x.inHand(61));
        // a at 0, to 3; b at 2, to 3: a at 3, to 1, at 4, to 3: b at 5, to 1, at 6, to 3: a at 7 ...
        int[] want = {0, -2, 1, 0, 0, 1, 1, 0, 0, 1, 1};
        for (int n = 0; n < want.length; n++) {
            CHECK.due("inHand " + n, want[n], x.inHand(n));
        }
        CHECK.due("inHand 60", 0, x.inHand(60));
        x.set(9);
        CHECK.due("with a height set", -2, x.inHand(3));
        CHECK.due("with a height set, later", 0, x.inHand(9));
        // those of a clash are gone
        StateJuggler y = CHECK.told("thing a 1 1 1; thing b 1 1 1; pattern p 5;");
        CHECK.due("the first of two", 0, y.inHand(1));
        CHECK.due("that one alone later", 0, y.inHand(6));
        StateJuggler none = new StateJuggler();
        CHECK.due("nothing there", -2, none.inHand(60));
    }

    private static void clashing() {
        StateJuggler x = CHECK.told("thing a 1 1 0; thing b 1 1 1; pattern p 2 1; drops = 100;");
        CHECK.due("a at 2 by 2, b at 2 by 1", 2, x.clash());
        x.beats(0);
        x.set(3);
        CHECK.due("a at 3 by the set 3, b at 2, by 2 at 4; a by 1 at 4", 4, x.clash());
        StateJuggler y = CHECK.told("thing a 1 1 9; thing b 1 1 9;");
        CHECK.due("both at 9", 9, y.clash());
        y.beats(9);
        CHECK.due("in this one", 0, y.clash());
        y.beats(1);
        CHECK.due("not", -2, y.clash());
        CHECK.due("not in a new one", -2, new StateJuggler().clash());
        // 3, 12, 21, 30, 39, 46, 53, 60 and 6, 15, 24, 33, 42, 51, 60
        StateJuggler far = CHECK.told("thing a 1 1 3; thing b 1 1 6; pattern p 9 9 9 9 7 9 9;");
        CHECK.due("at 60", 60, far.clash());
        StateJuggler farther = CHECK.told("thing a 1 1 2; thing b 1 1 7; pattern p 9 9 9 9 9 7 9;");
        CHECK.due("at 61", -2, farther.clash());
    }

    private static void into() {
        StateJuggler x = CHECK.told("thing a 1 1 0; thing b 1 1 1; thing c 1 1 2; pattern cas 3; pattern show 5 1;"
                + "pattern bad 4 3 2; pattern two 2; pattern high 7 1 1;");
        CHECK.due("into 3", 0, x.into(0, -1));
        CHECK.due("into 3, not so many", -1, x.into(0, 0));
        // 51: lands in 0, 1 and 3: a to 4 has the rest in 0, 1 and a in 3
        CHECK.due("into 51", 1, x.into(1, -1));
        CHECK.due("into 51 by 4", 4, x.into(1, 0));
        CHECK.due("into 51, not so many", -1, x.into(1, 1));
        CHECK.due("into 51, far", -1, x.into(1, Integer.MAX_VALUE));
        CHECK.due("does not close", -1, x.into(2, -1));
        CHECK.due("does not close, 0", -1, x.into(2, 0));
        CHECK.due("too many", -2, x.into(3, -1));
        CHECK.due("too many, 0", -3, x.into(3, 0));
        CHECK.due("too many, far", -3, x.into(3, 99));
        CHECK.due("i -2", -1, x.into(0, -2));
        CHECK.due("too many, -2", -1, x.into(3, -2));
        // 711: lands in 0, 1 and 4
        CHECK.due("into 711", 1, x.into(4, -1));
        CHECK.due("into 711 by 5", 5, x.into(4, 0));
        CHECK.due("pattern 5", -1, x.into(5, -1));
        CHECK.due("pattern -1", -1, x.into(-1, -1));
        CHECK.due("into nothing from nothing", -1, new StateJuggler().into(0, -1));
    }

    private static void intoWays() {
        StateJuggler x = CHECK.told("thing a 1 1 3; thing b 1 1 3; pattern p 2; pattern z 0; pattern q 3 1;");
        CHECK.due("two land in one beat later", -2, x.into(0, -1));
        CHECK.due("two land in one beat later, 0", -3, x.into(0, 0));
        x.beats(4);
        CHECK.due("two from one", -2, x.into(0, -1));
        CHECK.due("none from one", -2, x.into(1, -1));
        x.beats(1);
        x.set(0);
        x.beats(1);
        CHECK.due("nothing up", 0, x.count(4));
        CHECK.due("none from none", 0, x.into(1, -1));
        // a in 0, b in 9: nine beats at least until b can be thrown; 2 wants them in 0 and 1
        StateJuggler y = CHECK.told("thing a 1 1 0; thing b 1 1 9; pattern p 2;");
        CHECK.due("into 2 from 0 and 9", 8, y.into(0, -1));
        // then b lands in 1 and a in 0: a comes down at 8; the lowest: 1 1 1 1 1 1 1 1
        for (int i = 0; i < 8; i++) {
            CHECK.due("into 2 by 1: " + i, 1, y.into(0, i));
        }
        CHECK.due("into 2: 8", -1, y.into(0, 8));
        // a in 2, b in 5: nothing lands in the first two
        StateJuggler z = CHECK.told("thing a 1 1 2; thing b 1 1 5; pattern p 3 1;");
        // 31 lands in 0 and 1: behind 4 beats b is in 1 and a, by 1 twice, in 0
        CHECK.due("into 31", 4, z.into(0, -1));
        CHECK.due("nothing lands 0", 0, z.into(0, 0));
        CHECK.due("nothing lands 1", 0, z.into(0, 1));
        CHECK.due("by 1", 1, z.into(0, 2));
        CHECK.due("by 1 again", 1, z.into(0, 3));
        CHECK.due("not so many", -1, z.into(0, 4));
        // 8 0 0 0 8 0 0 0 lands in 0 and 4, 0 8 0 0 0 8 0 0 in 1 and 5
        StateJuggler w = CHECK.told("thing a 1 1 0; thing b 1 1 1; pattern p 8 0 0 0 8 0 0 0; pattern q 0 8 0 0 0 8 0 0;");
        CHECK.due("into 80008000", 1, w.into(0, -1));
        CHECK.due("by 5", 5, w.into(0, 0));
        // 7 0 0 0 0 0 0 9 lands in 0 and 8
        StateJuggler far = CHECK.told("thing a 1 1 0; thing b 1 1 1; pattern p 7 0 0 0 0 0 0 9;");
        CHECK.due("into 70000009", 1, far.into(0, -1));
        CHECK.due("by 9", 9, far.into(0, 0));
        // by 3 and 6 or by 7 and 2, the first the lowest
        CHECK.due("into 08000800", 2, w.into(1, -1));
        CHECK.due("the lowest first", 3, w.into(1, 0));
        CHECK.due("then the next", 6, w.into(1, 1));
    }

    private static void rooms() {
        StateJuggler x = CHECK.told("thing a 1 1 0; thing b 1 1 1; thing c 1 1 1; pattern p 3; pattern q 2; drops = 0;");
        CHECK.due("c is up", -1, x.room(2));
        x.beats(2);
        // a lands in 1 of each 3, b in 2
        CHECK.due("dropped c", 0, x.room(2));
        CHECK.due("a is up", -1, x.room(0));
        CHECK.due("no thing 3", -1, x.room(3));
        CHECK.due("no thing -1", -1, x.room(-1));
        x.beats(1);
        CHECK.due("one beat on", 2, x.room(2));
        x.use(1);
        // by 2 from now on: a now and each second; b the others
        CHECK.due("no room by 2", -2, x.room(2));
        CHECK.due("nothing has come up", 3, x.count(4));
        // two that land in one beat without it leave no room
        StateJuggler y = CHECK.told("thing a 1 1 0; thing b 1 1 5; thing c 1 1 0; pattern p 5;");
        y.beats(1);
        CHECK.due("a and b both at 5", -2, y.room(2));
        // with a height set: a would be at 4, not at 2
        StateJuggler z = CHECK.told("thing a 1 1 0; thing b 1 1 0; pattern p 1; pattern q 2;");
        z.beats(1);
        CHECK.due("1 by 1", -2, z.room(1));
        z.use(1);
        CHECK.due("1 by 2", 1, z.room(1));
        z.set(1);
        CHECK.due("1 by 2, the first by 1", 2, z.room(1));
    }

    /** Those that land in one beat at 59 do so in the next 60 (this one is at 0), those at 60 do not. */
    private static void roomSixty() {
        StateJuggler x = CHECK.told("thing a 1 1 7; thing b 1 1 0; pattern z 0; pattern p 9 9 9 9 7 9 9;");
        x.beats(1);
        x.use(1);
        // 6, 15, 24, 33, 42, 51, 60 and 0, 9, 18, 25, 32, 39, 46, 53, 60
        CHECK.due("at 60", 0, x.room(1));
        StateJuggler y = CHECK.told("thing a 1 1 7; thing b 1 1 0; pattern z 0; pattern p 9 9 9 7 9 9 9;");
        y.beats(1);
        y.use(1);
        // beside 5: 5, 14, 23, 32, 41, 50, 59 and 6, 15, 24, 31, 38, 45, 52, 59
        CHECK.due("at 59", -2, y.room(1));
        // a goes 6, 15, 24, ...; all but one that lands in 9 come upon it
        StateJuggler z = CHECK.told("thing a 1 1 7; thing b 1 1 0; pattern z 0; pattern p 7 9 9 9 9 9 9;");
        z.beats(1);
        z.use(1);
        CHECK.due("in 9", 9, z.room(1));
    }

    private static void busiest() {
        StateJuggler x = CHECK.told("thing a 1 1 3; thing b 1 1 1; thing c 1 1 0; pattern p 3; drops = 100;");
        // c and a share their beats: a is the first of them at 3
        CHECK.due("nothing but c", 2, x.busiest(1, 0));
        CHECK.due("once", 1, x.busiest(1, 1));
        CHECK.due("alike: the first", 1, x.busiest(2, 0));
        // c, b, -, a, b
        CHECK.due("b twice", 1, x.busiest(5, 0));
        CHECK.due("twice", 2, x.busiest(5, 1));
        CHECK.due("sixty", 20, x.busiest(60, 1));
        CHECK.due("sixty: b", 1, x.busiest(60, 0));
        CHECK.due("n 0", -1, x.busiest(0, 0));
        CHECK.due("n 61", -1, x.busiest(61, 0));
        CHECK.due("what 2", -1, x.busiest(5, 2));
        CHECK.due("what -1", -1, x.busiest(5, -1));
        x.beats(4);
        CHECK.due("all dropped", -2, x.busiest(60, 0));
        StateJuggler y = CHECK.told("thing a 1 1 9;");
        CHECK.due("nothing caught", -2, y.busiest(9, 0));
        CHECK.due("nothing caught, how often", -2, y.busiest(9, 1));
        CHECK.due("at 9", 0, y.busiest(10, 0));
    }

    private static void loads() {
        StateJuggler x = CHECK.told("thing a 5 1 3; thing b 2 1 1; thing c 9 1 0; pattern p 3; drops = 100;");
        CHECK.due("c", 9, x.load(1));
        CHECK.due("c b", 11, x.load(3));
        CHECK.due("c b - a b", 18, x.load(5));
        CHECK.due("sixty", 9 + 20 * 2 + 19 * 5, x.load(60));
        CHECK.due("n 0", -1, x.load(0));
        CHECK.due("n 61", -1, x.load(61));
        CHECK.due("n least", -1, x.load(Integer.MIN_VALUE));
    }

    private static void gaps() {
        StateJuggler x = CHECK.told("thing a 1 1 0; thing b 1 1 1; thing c 1 1 2; pattern p 3; pattern q 3 4; drops = 100;");
        CHECK.due("none", -2, x.gap());
        x.set(5);
        CHECK.due("one set", 3, x.gap());
        x.undo();
        x.use(1);
        CHECK.due("3 4: two at 5, none at 4", 4, x.gap());
        StateJuggler y = CHECK.told("thing a 1 1 1;");
        CHECK.due("this one", 0, y.gap());
        StateJuggler z = CHECK.told("thing a 1 1 0; pattern p 1 1 1 1 1 1 1 2;");
        CHECK.due("behind a 2", 8, z.gap());
    }

    private static void orders() {
        StateJuggler x = CHECK.told("thing a 1 1 5; thing b 1 1 2; thing c 1 1 5; thing d 1 1 0; thing e 1 1 9; pattern p 0;");
        int[] want = {3, 1, 0, 2, 4, -1, -1, -1};
        for (int i = 0; i < want.length; i++) {
            CHECK.due("order " + i, want[i], x.order(i));
        }
        CHECK.due("order -1", -1, x.order(-1));
        x.beats(1);
        CHECK.due("d is laid", 1, x.order(0));
        CHECK.due("not so many", -1, x.order(4));
    }

    private static void rules() {
        StateJuggler x = CHECK.told("thing a 1 3 0; thing b 1 5 1; pattern p 2; force = edge - 10; drops = 100;");
        CHECK.due("a", -7, x.rule(1));
        CHECK.due("a b a", -19, x.rule(3));
        CHECK.due("sixty", -360, x.rule(60));
        CHECK.due("n 0", -100000, x.rule(0));
        CHECK.due("n 61", -100000, x.rule(61));
        // each as its beat begins: beat, tired, caught; up less by those of the clash
        StateJuggler y = CHECK.told("thing a 1 3 1; thing b 1 5 1; thing c 1 5 9; pattern p 2; tires = 10;"
                + "force = beat + tired + caught * 2 + up * 3 + height;");
        CHECK.due("nothing yet", 0, y.rule(1));
        CHECK.due("beat 1, up 2", 7, y.rule(2));
        // beat 3: tired by 10 less 1, caught 1, up 2
        CHECK.due("beat 3", 7 + 3 + 9 + 2 + 6, y.rule(4));
        StateJuggler z = CHECK.told("thing a 1 9 0; pattern p 1; force = edge * 90;");
        CHECK.due("held each", 198, z.rule(2));
        StateJuggler edge = CHECK.told("thing a 1 9 0; pattern p 1;");
        CHECK.due("edge if not told", 18, edge.rule(2));
    }

    private static void nothingHappens() {
        StateJuggler x = CHECK.told("thing a 2 3 0; thing b 4 5 0; thing c 1 1 3; pattern p 3 1; pattern q 2; tires = 2;"
                + "drops = 50; pays = 3;");
        x.beats(1);
        int[] counts = new int[18];
        for (int what = 0; what < 18; what++) {
            counts[what] = x.count(what);
        }
        x.lands();
        x.inHand(60);
        x.clash();
        x.into(1, -1);
        x.room(1);
        x.busiest(60, 0);
        x.load(60);
        x.gap();
        x.order(0);
        x.rule(60);
        x.handover();
        x.limit(999);
        x.light(60, 1);
        x.down();
        x.then(60, 0);
        x.year(60, 20);
        x.glitters(0, 1);
        x.watch(0);
        x.joined(0, 1, 1);
        x.ways(5, 7, 3, 0);
        for (int what = 0; what < 18; what++) {
            CHECK.due("nothing happened: count " + what, counts[what], x.count(what));
        }
    }
}
