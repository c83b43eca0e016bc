import java.util.ArrayList;
import java.util.List;
import java.util.function.ToLongFunction;

/** The boundaries of promises 15 to 18, 24 to 30 and 32 to 36, and of section III as far as it looks ahead. */
final class AheadEdges extends Edges {
    private static final int[] FAR = {Integer.MIN_VALUE, Integer.MAX_VALUE};

    AheadEdges(Ledger ledger) {
        super(ledger);
    }

    @Override
    void all() {
        nothingHappensAtAll();
        noDropsButInBeats();
        lands();
        inHand();
        clash();
        into();
        intoFarthest();
        room();
        roomSixty();
        handover();
        limit();
        busiest();
        load();
        gap();
        order();
        light();
        rule();
        down();
        then();
        year();
    }

    private void nothingHappensAtAll() {
        says("What would be (nothing happens, no drops by DROPS but in BEATS).");
        List<ToLongFunction<StateJuggler>> calls = new ArrayList<>(List.of(StateJuggler::lands, StateJuggler::clash,
                StateJuggler::gap, StateJuggler::handover, StateJuggler::down, x -> x.inHand(60), x -> x.into(0, -1),
                x -> x.into(2, 0), x -> x.room(5), x -> x.limit(999), x -> x.busiest(60, 0), x -> x.load(60), x -> x.order(0),
                x -> x.ways(5, 7, 3, -1), x -> x.light(60, 1), x -> x.rule(60), x -> x.then(60, 3), x -> x.year(60, 20)));
        calls.addAll(List.of(x -> x.closes(0, 1), x -> x.joined(3, 2, 1), x -> x.turned(3, 3), x -> x.span(3),
                x -> x.orbits(3), x -> x.swaps(3), x -> x.glitters(5, 1), x -> x.watch(5), x -> x.tells(0, 3, 0),
                x -> x.thing(0, 4), x -> x.pattern(3, 3), x -> x.count(15), StateJuggler::place));
        for (int i = 0; i < calls.size(); i++) {
            ToLongFunction<StateJuggler> call = calls.get(i);
            nothingHappens("question " + i, this::busy, call, call.applyAsLong(busy()));
        }
    }

    private void noDropsButInBeats() {
        StateJuggler x = told("thing a 3 5 0;thing b 4 1 1;pattern p 2;pattern q 3 1;drops=100;tires=5;pays=7;");
        due("in hand", 0, x.inHand(60));
        due("no clash", -2, x.clash());
        due("no gap", -2, x.gap());
        due("busiest", 30, x.busiest(60, 1));
        due("load", 210, x.load(60));
        due("rule", 180, x.rule(60));
        due("watch", 0, x.watch(0));
        x.tell(60 - 20, true);
        due("glitters", 1, x.glitters(1, 1));
        due("down in BEATS", 2, x.down());
        due("limit in BEATS", -2, x.limit(1));
        due("light in BEATS", 0, x.light(60, 1));
        due("earned in BEATS", 0, x.then(60, 3));
        due("dropped in BEATS", 2, x.then(60, 2));
        due("year in BEATS", 0, x.year(1, 20));
        // a is CAUGHT and DROPPED at once, so b is not dropped by it
        StateJuggler y = told("thing a 3 5 0;thing b 4 1 3;pattern p 3;drops=if beat<3 then 100 else 0;");
        due("clash without drops", 3, y.clash());
        due("handover in BEATS", 4, y.handover());
    }

    private void lands() {
        says("LANDS: beats from now on (bits, 0 .. 9: this one is bit 0) in which something lands.");
        says("`int lands()`: LANDS (bits).");
        for (int n = 0; n <= 9; n++) {
            due("in " + n, 1 << n, told("thing a 1 1 " + n + ";").lands());
        }
        due("none", 0, new StateJuggler().lands());
        StateJuggler x = told("thing a 1 1 0;thing b 1 1 9;thing c 1 1 9;thing d 1 1 0;pattern p 0;");
        due("0 and 9, two each", 0x201, x.lands());
        x.beats(1);
        due("8", 0x100, x.lands());
        x.throwIn(0, 9);
        due("8 and 9", 0x300, x.lands());
        x.beats(9);
        due("the last one", 1, x.lands());
        x.beats(1);
        due("none is up", 0, x.lands());
    }

    private void inHand() {
        says("IN HAND n beats from now (0 .. 60): the THING that is CAUGHT then, by the PATTERN in use.");
        says("`int inHand(int n)`: IN HAND; -2: nothing; NONE: no such n.");
        StateJuggler x = told("thing a 1 1 3;thing b 1 1 0;pattern p 4;");
        for (int n = 0; n <= 60; n++) {
            due("in hand at " + n, n % 4 == 0 ? 1 : n % 4 == 3 ? 0 : -2, x.inHand(n));
        }
        due("n -1", -1, x.inHand(-1));
        due("n 61", -1, x.inHand(61));
        for (int far : FAR) {
            due("n far", -1, x.inHand(far));
        }
        due("nothing is up", -2, new StateJuggler().inHand(0));
        due("no such n, nothing is up", -1, new StateJuggler().inHand(61));
        // by the PATTERN in use, as it goes on
        StateJuggler y = told("thing a 1 1 0;pattern p 1 0;pattern q 3;");
        due("laid at 1", -2, y.inHand(2));
        y.use(1);
        due("not laid", 0, y.inHand(60));
    }

    private void clash() {
        says("CLASH: behind how many beats (0 .. 60) two land in one.");
        says("`int clash()`: CLASH (0: in this one); -2: not.");
        due("in this one", 0, told("thing a 1 1 0;thing b 1 1 0;").clash());
        due("one alone", -2, told("thing a 1 1 0;").clash());
        due("none", -2, new StateJuggler().clash());
        for (int n = 0; n <= 9; n++) {
            due("at " + n, n, told("thing a 1 1 " + n + ";thing b 1 1 " + n + ";").clash());
        }
        // 3, 12, 21, 30, 39, 46, 53, 60 and 6, 15, 24, 33, 42, 51, 60
        StateJuggler at = told("thing a 1 1 3;thing b 1 1 6;pattern p 9 9 9 9 7 9 9;");
        due("at 60", 60, at.clash());
        at.beats(60);
        due("then at 0", 0, at.clash());
        // the same a beat later
        StateJuggler behind = told("thing a 1 1 4;thing b 1 1 7;pattern p 9 9 9 9 9 7 9;");
        due("at 61", -2, behind.clash());
        due("a beat on", 1, behind.beats(1));
        due("at 60 again", 60, behind.clash());
    }

    private void into() {
        says("INTO a PATTERN that CLOSES: the fewest beats 0 .. 12, in each of which what lands is thrown by hand to 1 .. 9, or"
                + " nothing lands, so that then just in those beats something lands in which it would, were the PATTERN gone"
                + " on with for ever and just at its first HEIGHT (none, if two land in one beat now); of alike ones the lowest"
                + " first HEIGHT, then the next one.");
        says("`int into(int pattern, int i)`: INTO: how many beats (i NONE), else the HEIGHT of the i-th one (0: nothing lands);"
                + " -2: none (i NONE), -3 (else); NONE (looked at first): no such PATTERN, it does not CLOSE, i below NONE; not"
                + " so many.");
        StateJuggler x = told("thing a 1 1 1;pattern p 1;pattern q 3;pattern r 1 0;pattern s 2;pattern t 0;");
        // 1 wants it in 0: nothing lands in the first beat
        due("into 1", 1, x.into(0, -1));
        due("nothing lands", 0, x.into(0, 0));
        due("not so many", -1, x.into(0, 1));
        due("far more", -1, x.into(0, Integer.MAX_VALUE));
        due("does not close", -1, x.into(2, -1));
        due("does not close, i 0", -1, x.into(2, 0));
        due("too few", -2, x.into(3, -1));
        due("too few, i 0", -3, x.into(3, 0));
        due("too few, i 11", -3, x.into(3, 11));
        due("too few, i far", -3, x.into(3, Integer.MAX_VALUE));
        due("too few, i -2", -1, x.into(3, -2));
        due("too many", -2, x.into(4, -1));
        for (int pattern : new int[] {Integer.MIN_VALUE, -1, 5, Integer.MAX_VALUE}) {
            due("into " + pattern, -1, x.into(pattern, -1));
            due("into " + pattern + ", i 0", -1, x.into(pattern, 0));
        }
        due("i -2", -1, x.into(0, -2));
        due("i least", -1, x.into(0, Integer.MIN_VALUE));
        x.beats(1);
        due("there already", 0, x.into(0, -1));
        due("there already: none of it", -1, x.into(0, 0));
        // two that land in one beat, now or later on
        for (int n = 0; n <= 9; n++) {
            StateJuggler two = told("thing a 1 1 " + n + ";thing b 1 1 " + n + ";pattern p 1;pattern q 2;");
            due("two in " + n + ", into 1", -2, two.into(0, -1));
            due("two in " + n + ", into 2", -2, two.into(1, -1));
            due("two in " + n + ", i 0", -3, two.into(1, 0));
        }
        due("none up, none kept", 0, told("pattern p 0;").into(0, -1));
        due("none up, one kept", -2, told("pattern p 1;").into(0, -1));
    }

    private void intoFarthest() {
        // to 1 and to 9: 2 wants them in 0 and 1; 7 0 0 0 0 0 0 9 wants them in 0 and 8
        StateJuggler low = told("thing a 1 1 0;thing b 1 1 2;pattern p 2;pattern q 7 0 0 0 0 0 0 9;");
        due("by 1", 1, low.into(0, -1));
        due("to 1", 1, low.into(0, 0));
        StateJuggler high = told("thing a 1 1 0;thing b 1 1 1;pattern q 7 0 0 0 0 0 0 9;");
        due("by 9", 1, high.into(0, -1));
        due("to 9", 9, high.into(0, 0));
        // In 9 and 8, to be in 5 and 7 (8 a beat ago, 7 ahead of it): two apart as they never are while they fall, and in 9
        // beats one of them is in 0. So both are thrown, at 8 and at 9: to 7 and 8, or to 9 and 6; the first is lower.
        StateJuggler x = told("thing a 1 1 9;thing b 1 1 8;pattern p 0 0 0 0 0 1 7 8;");
        due("ten beats", 10, x.into(0, -1));
        int[] heights = {0, 0, 0, 0, 0, 0, 0, 0, 7, 8};
        for (int i = 0; i < heights.length; i++) {
            due("height " + i, heights[i], x.into(0, i));
        }
        due("not so many", -1, x.into(0, 10));
        // what is told is so: gone through by hand, just those beats are come to
        for (int i = 0; i < heights.length; i++) {
            if (heights[i] > 0) {
                x.set(heights[i]);
            }
            x.beats(1);
        }
        due("in 5 and 7", 0xa0, x.lands());
        due("there", 0, x.into(0, -1));
    }

    private void room() {
        says("ROOM for a THING not UP: the first n (0 .. 9) so that, THROWN IN to land in n beats, the PATTERN in use, no two land"
                + " in one beat in the next 60.");
        says("`int room(int thing)`: ROOM; -2: none; NONE: it is UP, no such THING.");
        // a lands in each beat up to the one with HEIGHT 0, in which it is laid
        for (int n = 1; n <= 8; n++) {
            StateJuggler x = told("thing a 1 1 1;thing b 1 1 0;pattern z 0;pattern p " + "1 ".repeat(n - 1) + "0;");
            x.beats(1);
            x.use(1);
            due("room at " + n, n, x.room(1));
            due("a is up", -1, x.room(0));
        }
        StateJuggler x = told("thing a 1 1 1;thing b 1 1 0;thing c 1 1 0;pattern z 0;pattern p 0 1 1 1 1 1 1 1;");
        x.beats(1);
        x.use(1);
        due("a is laid at once", 1, x.room(1));
        // by the one set it is laid at 8
        x.set(1);
        due("room at 9", 9, x.room(1));
        x.throwIn(2, 9);
        due("none at 9 either", -2, x.room(1));
        due("c is up", -1, x.room(2));
        StateJuggler none = told("thing a 1 1 0;thing b 1 1 0;pattern p 1;");
        none.beats(1);
        due("none", -2, none.room(1));
        for (int thing : new int[] {Integer.MIN_VALUE, -1, 2, 7, Integer.MAX_VALUE}) {
            due("thing " + thing, -1, none.room(thing));
        }
        StateJuggler alone = told("thing a 1 1 0;pattern p 0;");
        due("up yet", -1, alone.room(0));
        alone.beats(1);
        due("room at 0", 0, alone.room(0));
        due("no thing", -1, new StateJuggler().room(0));
    }

    private void roomSixty() {
        // 6, 15, 24, 33, 42, 51, 60 and 0, 9, 18, 25, 32, 39, 46, 53, 60
        StateJuggler x = told("thing a 1 1 7;thing b 1 1 0;pattern z 0;pattern p 9 9 9 9 7 9 9;");
        x.beats(1);
        x.use(1);
        due("one beat at 60 is behind the next 60", 0, x.room(1));
        // 6, 15, 24, 31, 38, 45, 52, 59 and 5, 14, 23, 32, 41, 50, 59; from the others on they meet earlier
        StateJuggler y = told("thing a 1 1 7;thing b 1 1 0;pattern z 0;pattern p 9 9 9 7 9 9 9;");
        y.beats(1);
        y.use(1);
        due("one beat at 59 is in the next 60", -2, y.room(1));
        y.throwIn(1, 5);
        due("thrown in at 5 they meet at 59", 59, y.clash());
        for (int n = 0; n <= 9; n++) {
            y.undo();
            y.throwIn(1, n);
            due("in " + n + " not later than that", true, y.clash() >= 0 && y.clash() <= 59);
        }
    }

    private void handover() {
        says("HANDOVER: behind how many BEATS (0 .. 60) each of the THINGS UP now has been CAUGHT once.");
        says("`int handover()`: HANDOVER (0: nothing is UP); -2: not.");
        due("no thing", 0, new StateJuggler().handover());
        for (int n = 0; n <= 9; n++) {
            due("one in " + n, n + 1, told("thing a 1 1 " + n + ";").handover());
            due("two in " + n, -2, told("thing a 1 1 " + n + ";thing b 1 1 " + n + ";").handover());
        }
        StateJuggler x = told("thing a 1 1 0;pattern p 0;");
        due("one", 1, x.handover());
        x.beats(1);
        due("nothing is up", 0, x.handover());
        StateJuggler seven = told("thing a 1 1 0;thing b 1 1 1;thing c 1 1 2;thing d 1 1 3;thing e 1 1 4;thing f 1 1 5;"
                + "thing g 1 1 6;pattern p 7;");
        due("seven", 7, seven.handover());
        seven.set(6);
        due("a comes down upon g", -2, seven.handover());
    }

    private void limit() {
        says("LIMIT w: behind how many BEATS (0 .. 200) he is w or more tired.");
        says("`int limit(int w)`: LIMIT (w 0 .. 999); -2: not; NONE: no such w.");
        StateJuggler x = told("thing a 1 1 0;pattern p 1;tires=5;");
        due("w 0", 0, x.limit(0));
        due("w 1", 1, x.limit(1));
        due("w 5", 1, x.limit(5));
        due("w 6", 2, x.limit(6));
        due("w 995", 199, x.limit(995));
        due("w 999, at 200", 200, x.limit(999));
        due("w 1000", -1, x.limit(1000));
        due("w -1", -1, x.limit(-1));
        for (int far : FAR) {
            due("w far", -1, x.limit(far));
        }
        x.beats(1);
        due("w 5 now", 0, x.limit(5));
        due("w 6 then", 1, x.limit(6));
        StateJuggler late = told("thing a 1 1 1;pattern p 1;tires=5;");
        due("w 995, at 200", 200, late.limit(995));
        due("w 999, at 201", -2, late.limit(999));
        late.beats(1);
        due("w 999, at 200", 200, late.limit(999));
        due("nothing tires", -2, new StateJuggler().limit(1));
        due("w 0 of none", 0, new StateJuggler().limit(0));
    }

    private void busiest() {
        says("BUSIEST in n beats from now (1 .. 60): the THING that is CAUGHT most often in them, of alike ones the first; how"
                + " often.");
        says("`int busiest(int n, int what)`: BUSIEST: what 0 which, 1 how often; -2: nothing is CAUGHT; NONE: no such ones.");
        StateJuggler x = told("thing a 1 1 1;thing b 1 1 0;pattern p 2;");
        for (int n = 1; n <= 60; n++) {
            due("which in " + n, n % 2, x.busiest(n, 0));
            due("how often in " + n, (n + 1) / 2, x.busiest(n, 1));
        }
        for (int n : new int[] {Integer.MIN_VALUE, -1, 0, 61, Integer.MAX_VALUE}) {
            due("which in " + n, -1, x.busiest(n, 0));
            due("how often in " + n, -1, x.busiest(n, 1));
        }
        for (int what : new int[] {Integer.MIN_VALUE, -1, 2, Integer.MAX_VALUE}) {
            due("what " + what, -1, x.busiest(5, what));
        }
        StateJuggler y = told("thing a 1 1 9;thing b 1 1 9;thing c 1 1 9;thing d 1 1 9;thing e 1 1 9;thing f 1 1 9;"
                + "thing g 1 1 3;pattern p 0;");
        due("nothing in 3", -2, y.busiest(3, 0));
        due("nothing in 3, how often", -2, y.busiest(3, 1));
        due("the last thing", 6, y.busiest(4, 0));
        due("alike: the first", 0, y.busiest(10, 0));
        due("what 2 of nothing", -1, y.busiest(3, 2));
    }

    private void load() {
        says("LOAD: WEIGHTS of all that are CAUGHT in them, together.");
        says("`int load(int n)`: LOAD (n 1 .. 60); NONE: no such n.");
        StateJuggler x = told("thing a 9 1 0;pattern p 1;");
        for (int n = 1; n <= 60; n++) {
            due("load in " + n, 9 * n, x.load(n));
        }
        for (int n : new int[] {Integer.MIN_VALUE, -1, 0, 61, Integer.MAX_VALUE}) {
            due("load in " + n, -1, x.load(n));
        }
        due("nothing", 0, new StateJuggler().load(60));
        // the one that is dropped in a clash is not CAUGHT
        due("of two", 2, told("thing a 2 1 0;thing b 7 1 0;pattern p 0;").load(60));
    }

    private void gap() {
        says("GAP: the first beat from now on (0 .. 60), the PATTERN in use, in which nothing lands.");
        says("`int gap()`: GAP; -2: none.");
        due("now", 0, new StateJuggler().gap());
        due("now, one in 1", 0, told("thing a 1 1 1;").gap());
        due("none", -2, told("thing a 1 1 0;pattern p 1;").gap());
        for (int n = 1; n <= 8; n++) {
            due("behind a 2: " + n, n, told("thing a 1 1 0;pattern p " + "1 ".repeat(n - 1) + "2;").gap());
        }
        // Come down to: 3, 6, 6, 4, 5, 2, 7, 0 by 8, and never to 1; f is there at 1, e at 9, nothing at 17. No gap comes
        // later: a PATTERN that comes down to all numbers has none behind 9, and another one has its first by 9 and 8.
        StateJuggler x = told("thing a 1 1 0;thing b 1 1 4;thing c 1 1 5;thing d 1 1 2;thing e 1 1 9;thing f 1 1 1;"
                + "thing g 1 1 7;pattern p 3 5 4 9 9 5 9 1;");
        due("at 17", 17, x.gap());
        due("something at 16", true, x.inHand(16) >= 0);
        due("nothing at 17", -2, x.inHand(17));
    }

    private void order() {
        says("ORDER: THINGS by when they land next, of alike ones by number.");
        says("`int order(int i)`: ORDER: the i-th THING (0 .. 6); NONE: not so many, no such i.");
        StateJuggler x = told("thing a 1 1 9;thing b 1 1 0;thing c 1 1 9;thing d 1 1 1;thing e 1 1 8;thing f 1 1 1;thing g 1 1 0;");
        int[] want = {1, 6, 3, 5, 4, 0, 2};
        for (int i = -2; i <= 9; i++) {
            due("order " + i, i >= 0 && i < 7 ? want[i] : -1, x.order(i));
        }
        for (int far : FAR) {
            due("order far", -1, x.order(far));
        }
        x.beats(1);
        // g is dropped
        int[] then = {3, 5, 1, 4, 0, 2, -1};
        for (int i = 0; i < 7; i++) {
            due("then " + i, then[i], x.order(i));
        }
        due("none", -1, new StateJuggler().order(0));
    }

    private void light() {
        says("LIGHT of PATTERNS that CLOSE and keep as many as are UP: the one by which he is least tired in n BEATS (1 .. 60)"
                + " from now on, as it comes into use now; of alike ones the first; how tired then.");
        says("`int light(int n, int what)`: LIGHT: what 0 the PATTERN, 1 how tired; -2: none; NONE: no such ones.");
        StateJuggler x = told("thing a 1 1 0;pattern z 0;pattern y 2;pattern v 1 0;pattern u 1;pattern w 1;"
                + "tires=if beat<60 then 1 else 99;");
        for (int n = 1; n <= 60; n++) {
            due("light in " + n, 3, x.light(n, 0));
            due("tired in " + n, n, x.light(n, 1));
        }
        for (int n : new int[] {Integer.MIN_VALUE, -1, 0, 61, Integer.MAX_VALUE}) {
            due("light in " + n, -1, x.light(n, 0));
            due("tired in " + n, -1, x.light(n, 1));
        }
        for (int what : new int[] {Integer.MIN_VALUE, -1, 2, Integer.MAX_VALUE}) {
            due("what " + what, -1, x.light(1, what));
        }
        due("none there", -2, told("thing a 1 1 0;pattern z 0;pattern y 2;pattern v 1 0;").light(60, 0));
        due("none there: tired", -2, told("thing a 1 1 0;pattern z 0;pattern y 2;pattern v 1 0;").light(60, 1));
        due("none there, what 2", -1, new StateJuggler().light(1, 2));
        due("no pattern", -2, new StateJuggler().light(1, 0));
        // the last of five is the one; less by one is less
        StateJuggler last = told("thing a 1 1 0;pattern p 9 0 0 0 0 0 0 0;pattern q 2 0;pattern r 1;pattern s 3 0 0;"
                + "pattern t 4 0 0 0;tires=10-height;rests 0;");
        due("the last", 4, last.light(1, 0));
        due("the last: tired", 6, last.light(1, 1));
        // the one in the middle; 1 0 keeps one half, 2 keeps two
        StateJuggler middle = told("thing a 1 1 0;pattern p 3 0 0;pattern q 2;pattern r 1;pattern s 2 0;pattern t 1 0;"
                + "tires=height;rests 0;");
        due("the middle", 2, middle.light(1, 0));
        due("the middle: tired", 1, middle.light(1, 1));
        // none UP: one that keeps none
        StateJuggler none = told("thing a 1 1 0;pattern z 0;pattern y 1;");
        none.beats(1);
        due("keeps none", 0, none.light(1, 0));
        // as it comes into use now: from its first HEIGHT on
        StateJuggler now = told("thing a 1 1 1;pattern p 2 0;tires=height;");
        now.beats(1);
        due("its first", 2, now.light(1, 1));
        due("nothing has changed", 0, now.count(10));
    }

    private void rule() {
        says("RULE in n beats from now (1 .. 60): what FORCE tells of all that are CAUGHT in them, together.");
        says("`int rule(int n)`: RULE; -100000: no such n.");
        StateJuggler x = told("thing a 1 1 0;pattern p 1;force=0-beat-1;");
        int sum = 0;
        for (int n = 1; n <= 60; n++) {
            sum -= n;
            due("rule in " + n, sum, x.rule(n));
        }
        for (int n : new int[] {Integer.MIN_VALUE, -1, 0, 61, Integer.MAX_VALUE}) {
            due("rule in " + n, -100000, x.rule(n));
        }
        due("most", 5940, told("thing a 1 1 0;pattern p 1;force=100;").rule(60));
        due("least", -5940, told("thing a 1 1 0;pattern p 1;force=0-100;").rule(60));
        due("nothing", 0, new StateJuggler().rule(60));
    }

    private void down() {
        says("DOWN: behind how many BEATS (0 .. 200) nothing is UP.");
        says("`int down()`: DOWN (0: now); -2: not.");
        due("now", 0, new StateJuggler().down());
        due("one", 1, told("thing a 1 1 0;pattern p 0;").down());
        due("ten", 10, told("thing a 1 1 9;thing b 1 1 0;pattern p 0;").down());
        due("not", -2, told("thing a 1 1 0;pattern p 1;").down());
        StateJuggler at = told("thing a 1 1 0;pattern p 1;drops=if beat<199 then 0 else 100;");
        due("at 200", 200, at.down());
        StateJuggler behind = told("thing a 1 1 0;pattern p 1;drops=if beat<200 then 0 else 100;");
        due("at 201", -2, behind.down());
        behind.beats(1);
        due("a beat on", 200, behind.down());
    }

    private void then() {
        says("`int then(int n, int what)`: IN n BEATS (0 .. 60; with drops by DROPS): what 0 how tired, 1 how many are UP, 2 how"
                + " many DROPPED more, 3 what is earned more; NONE: no such ones.");
        StateJuggler x = told("thing a 1 1 0;thing b 1 1 0;pattern p 1;tires=1;pays=2;drops=if beat<59 then 0 else 100;");
        for (int n = 0; n <= 60; n++) {
            due("tired in " + n, Math.min(n, 59), x.then(n, 0));
            due("up in " + n, n == 0 ? 2 : n < 60 ? 1 : 0, x.then(n, 1));
            due("dropped in " + n, n == 0 ? 0 : n < 60 ? 1 : 2, x.then(n, 2));
            due("earned in " + n, 2 * Math.min(n, 59), x.then(n, 3));
        }
        for (int n : new int[] {Integer.MIN_VALUE, -1, 61, Integer.MAX_VALUE}) {
            for (int what = 0; what < 4; what++) {
                due("then " + n + " what " + what, -1, x.then(n, what));
            }
        }
        for (int what : new int[] {Integer.MIN_VALUE, -1, 4, Integer.MAX_VALUE}) {
            due("what " + what, -1, x.then(0, what));
        }
        // more than now
        x.beats(10);
        due("dropped no more", 0, x.then(1, 2));
        due("earned more", 2, x.then(1, 3));
    }

    private void year() {
        says("YEAR by s SEEDS (1 .. 20) from the text's SEED on: in how many of them nothing more is DROPPED in n BEATS (0 .. 60).");
        says("`int year(int n, int s)`: YEAR; NONE: no such ones.");
        for (int seed : new int[] {0, 9980, 9999}) {
            StateJuggler x = told("thing a 1 1 0;pattern p 1;drops=3;seed " + seed + ";");
            for (int n : new int[] {0, 1, 2, 30, 59, 60}) {
                int good = 0;
                for (int s = 1; s <= 20; s++) {
                    good += kept(seed + s - 1, n, 3) ? 1 : 0;
                    due("year " + n + " of " + s + " from " + seed, good, x.year(n, s));
                }
            }
        }
        StateJuggler x = told("thing a 1 1 0;pattern p 1;drops=if beat<59 then 0 else 100;");
        due("59 beats", 20, x.year(59, 20));
        due("60 beats", 0, x.year(60, 20));
        due("n 61", -1, x.year(61, 20));
        due("n -1", -1, x.year(-1, 20));
        due("s 0", -1, x.year(0, 0));
        due("s 1", 1, x.year(0, 1));
        due("s 20", 20, x.year(0, 20));
        due("s 21", -1, x.year(0, 21));
        due("s -1", -1, x.year(0, -1));
        for (int far : FAR) {
            due("n far", -1, x.year(far, 1));
            due("s far", -1, x.year(0, far));
        }
        // nothing more: what is dropped already does not count
        StateJuggler two = told("thing a 1 1 0;thing b 1 1 0;pattern p 1;");
        due("a clash", 0, two.year(1, 20));
        two.beats(1);
        due("nothing more", 20, two.year(60, 20));
    }

    /** Whether no LOT of so many beats is less than that. */
    private static boolean kept(int seed, int beats, int drops) {
        for (int beat = 0; beat < beats; beat++) {
            if (BeatEdges.lot(100, seed, 4 * beat) < drops) {
                return false;
            }
        }
        return true;
    }
}
