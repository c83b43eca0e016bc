/** Promises 37 to 40: tell, forget, glitters, watch. */
final class GlitterTest {
    private static final Check CHECK = new Check();

    public static void main(String[] args) {
        telling();
        glittering();
        fromNowOn();
        watching();
        CHECK.end();
    }

    private static void telling() {
        StateJuggler x = new StateJuggler();
        CHECK.due("n -1", -1, x.tell(-1, true));
        CHECK.due("n 41", -1, x.tell(41, true));
        for (int i = 0; i < 20; i++) {
            CHECK.due("tell " + i, i, x.tell(2 * i, i % 2 == 0));
        }
        CHECK.due("the 21st", -1, x.tell(40, true));
        CHECK.due("20 told", 20, x.count(13));
        CHECK.due("forget", 20, x.forget());
        CHECK.due("none told", 0, x.count(13));
        CHECK.due("forget nothing", 0, x.forget());
        CHECK.due("tell at 40", 0, x.tell(40, false));
        CHECK.due("tell at 0", 1, x.tell(0, false));
        CHECK.due("no thing done", 0, x.count(12));
    }

    private static void glittering() {
        // d is laid; from then on in hand: a b c a b c ...
        StateJuggler x = CHECK.told("thing d 1 1 0; thing a 1 1 1; thing b 1 1 2; thing c 1 1 3; pattern z 0; pattern p 3;");
        x.beats(1);
        x.use(1);
        CHECK.due("none told: how many", 3, x.glitters(0, 0));
        CHECK.due("none told: which", 14, x.glitters(0, 1));
        x.tell(1, false);
        x.tell(3, false);
        x.tell(5, true);
        CHECK.due("not b", 10, x.glitters(1, 1));
        CHECK.due("not b: how many", 2, x.glitters(1, 0));
        CHECK.due("not b nor a", 8, x.glitters(2, 1));
        CHECK.due("c", 8, x.glitters(3, 1));
        CHECK.due("none told of it yet", 14, x.glitters(0, 1));
        x.tell(4, true);
        CHECK.due("c and b: none", 0, x.glitters(4, 1));
        CHECK.due("c and b: none, how many", 0, x.glitters(4, 0));
        CHECK.due("k 5", -1, x.glitters(5, 0));
        CHECK.due("k -1", -1, x.glitters(-1, 0));
        CHECK.due("what -1", -1, x.glitters(0, -1));
        CHECK.due("what 2", -1, x.glitters(0, 2));
        x.forget();
        x.tell(40, true);
        CHECK.due("at 40 b", 4, x.glitters(1, 1));
        CHECK.due("k 2", -1, x.glitters(2, 1));
    }

    /** What is told goes by the beats from now on, whenever it is asked; drops by DROPS are not looked at. */
    private static void fromNowOn() {
        StateJuggler x = CHECK.told("thing a 1 1 0; thing b 1 1 1; pattern p 2; drops = if beat < 5 then 0 else 100;");
        x.tell(0, true);
        x.tell(8, true);
        CHECK.due("a now", 1, x.glitters(2, 1));
        x.beats(1);
        CHECK.due("b now", 2, x.glitters(2, 1));
        x.undo();
        CHECK.due("a again", 1, x.glitters(2, 1));
        x.hold(0);
        x.tell(1, true);
        x.restore(0);
        CHECK.due("told ones stay", 3, x.count(13));
        // nothing in hand
        StateJuggler y = CHECK.told("thing a 1 1 1; thing b 1 1 1; pattern p 2;");
        y.tell(0, false);
        CHECK.due("both may be", 3, y.glitters(1, 1));
        y.tell(0, true);
        CHECK.due("none was in hand", 0, y.glitters(2, 1));
        y.forget();
        y.tell(1, false);
        CHECK.due("b, never in hand", 2, y.glitters(1, 1));
    }

    private static void watching() {
        StateJuggler x = CHECK.told("thing a 1 1 2; thing b 1 1 3; thing c 1 1 4; pattern p 3;");
        // 0 and 1: nothing in hand, three left; 2: a, two left at worst
        CHECK.due("the first that tells", 2, x.watch(0));
        x.tell(2, false);
        CHECK.due("then b", 3, x.watch(1));
        CHECK.due("as known by none", 2, x.watch(0));
        x.tell(3, false);
        CHECK.due("one left: any beat", 0, x.watch(2));
        x.tell(4, false);
        CHECK.due("none left", -2, x.watch(3));
        CHECK.due("k 4", -1, x.watch(4));
        CHECK.due("k -1", -1, x.watch(-1));
        CHECK.due("nothing up", -2, new StateJuggler().watch(0));
        CHECK.due("nothing told", -1, new StateJuggler().watch(1));
        StateJuggler seven = CHECK.told("thing a 1 1 2; thing b 1 1 3; thing c 1 1 4; thing d 1 1 5; thing e 1 1 6;"
                + "thing f 1 1 7; thing g 1 1 8;");
        CHECK.due("seven", 2, seven.watch(0));
        // two that clash: the second is never in hand
        StateJuggler y = CHECK.told("thing a 1 1 9; thing b 1 1 9; thing c 1 1 9;");
        CHECK.due("a at 9", 9, y.watch(0));
        y.tell(9, false);
        CHECK.due("none of them in hand ever", 0, y.watch(1));
    }
}
