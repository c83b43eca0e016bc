/** The boundaries of section IV and of promises 37 to 40: what is TOLD, KNOWN, glitters, and is to be watched. */
final class GlitterEdges extends Edges {
    GlitterEdges(Ledger ledger) {
        super(ledger);
    }

    @Override
    void all() {
        tell();
        forget();
        glitters();
        glittersFar();
        watch();
        watchLatest();
    }

    private StateJuggler busyTold(int told) {
        StateJuggler x = busy();
        for (int i = 5; i < told; i++) {
            x.tell(i, i % 2 == 0);
        }
        return x;
    }

    private void tell() {
        says("TOLD: that n beats from now (0 .. 40) what glitters was in hand, or was not; 20 at most, numbered from 0 on; KNOWN by"
                + " k: the first k.");
        says("`int tell(int n, boolean hand)`: It is TOLD (n 0 .. 40): its number; NONE, and nothing happens: 20 are there, no"
                + " such n.");
        StateJuggler x = new StateJuggler();
        for (int i = 0; i < 20; i++) {
            due("tell " + i, i, x.tell(i % 2 == 0 ? 0 : 40, i % 3 == 0));
            due("told", i + 1, x.count(13));
        }
        due("a 21st", -1, x.tell(0, true));
        due("told yet", 20, x.count(13));
        due("the 20th", 19, busyTold(19).tell(40, true));
        nothingHappens("a 21st in hand", () -> busyTold(20), y -> y.tell(0, true), -1);
        nothingHappens("a 21st not in hand", () -> busyTold(20), y -> y.tell(40, false), -1);
        for (int n : new int[] {Integer.MIN_VALUE, -1, 41, Integer.MAX_VALUE}) {
            nothingHappens("tell " + n, this::busy, y -> y.tell(n, true), -1);
            nothingHappens("tell not " + n, this::busy, y -> y.tell(n, false), -1);
        }
        due("no thing done", busy().count(12), busyTold(20).count(12));
    }

    private void forget() {
        says("`int forget()`: All that was TOLD is forgotten: how many there were.");
        StateJuggler x = new StateJuggler();
        due("none", 0, x.forget());
        for (int told : new int[] {1, 20}) {
            for (int i = 0; i < told; i++) {
                x.tell(0, true);
            }
            due("forget " + told, told, x.forget());
            due("none are told", 0, x.count(13));
            due("none are known", -1, x.glitters(1, 0));
            due("forget again", 0, x.forget());
        }
        due("numbered from 0 on again", 0, x.tell(0, false));
    }

    private void glitters() {
        says("GLITTERS: THINGS UP of which all that is KNOWN is so, by IN HAND: how many; which (bits).");
        says("`int glitters(int k, int what)`: GLITTERS, as KNOWN by k: what 0 how many, 1 which (bits); NONE: no such ones.");
        StateJuggler x = told("thing a 1 1 0;thing b 1 1 1;thing c 1 1 2;thing d 1 1 3;thing e 1 1 4;thing f 1 1 5;"
                + "thing g 1 1 6;pattern p 7;");
        due("k 0", 7, x.glitters(0, 0));
        due("k 0, which", 127, x.glitters(0, 1));
        due("k 1, none told", -1, x.glitters(1, 0));
        for (int i = 0; i < 20; i++) {
            x.tell(i < 6 ? i : 20, i >= 6 && i < 19);
        }
        // not a .. f; then at 20, which is g's, and at last not g either
        for (int k = 0; k <= 20; k++) {
            int want = k == 20 ? 0 : 127 >> Math.min(k, 6) << Math.min(k, 6);
            due("which by " + k, want, x.glitters(k, 1));
            due("how many by " + k, Integer.bitCount(want), x.glitters(k, 0));
        }
        for (int k : new int[] {Integer.MIN_VALUE, -1, 21, Integer.MAX_VALUE}) {
            due("k " + k, -1, x.glitters(k, 0));
            due("k " + k + ", which", -1, x.glitters(k, 1));
        }
        for (int what : new int[] {Integer.MIN_VALUE, -1, 2, Integer.MAX_VALUE}) {
            due("what " + what, -1, x.glitters(0, what));
        }
        due("no thing", 0, new StateJuggler().glitters(0, 0));
        // THINGS UP alone
        StateJuggler y = told("thing a 1 1 0;thing b 1 1 0;thing c 1 1 9;pattern p 0;");
        y.beats(1);
        due("c alone is up", 4, y.glitters(0, 1));
        y.tell(0, false);
        due("nothing in hand", 4, y.glitters(1, 1));
        y.tell(0, true);
        due("nothing was in hand", 0, y.glitters(2, 1));
    }

    private void glittersFar() {
        // b at 0, 4, .. 40; a at 1, 5, .. 37
        for (int n = 0; n <= 40; n++) {
            StateJuggler x = told("thing a 1 1 1;thing b 1 1 0;pattern p 4;");
            x.tell(n, true);
            due("in hand at " + n, n % 4 == 0 ? 2 : n % 4 == 1 ? 1 : 0, x.glitters(1, 1));
            x.forget();
            x.tell(n, false);
            due("not in hand at " + n, n % 4 == 0 ? 1 : n % 4 == 1 ? 2 : 3, x.glitters(1, 1));
        }
    }

    private void watch() {
        says("WATCH: the beat n (0 .. 40) of which, once it is told, fewest are left, at worst; of alike ones the first.");
        says("`int watch(int k)`: WATCH, as KNOWN by k; -2: none is left; NONE: no such k.");
        StateJuggler x = told("thing a 1 1 3;thing b 1 1 4;thing c 1 1 5;pattern p 3;");
        due("k 0", 3, x.watch(0));
        due("k 1, none told", -1, x.watch(1));
        due("k -1", -1, x.watch(-1));
        x.tell(3, false);
        due("k 1", 4, x.watch(1));
        due("k 0 yet", 3, x.watch(0));
        x.tell(5, false);
        // b alone is left: each beat leaves one at worst
        due("one left", 0, x.watch(2));
        x.tell(4, false);
        due("none left", -2, x.watch(3));
        due("k 4", -1, x.watch(4));
        for (int i = 3; i < 20; i++) {
            x.tell(40, false);
        }
        due("k 20", -2, x.watch(20));
        for (int k : new int[] {Integer.MIN_VALUE, -1, 21, Integer.MAX_VALUE}) {
            due("k " + k, -1, x.watch(k));
        }
        due("nothing is up", -2, new StateJuggler().watch(0));
        due("nothing is up, no such k", -1, new StateJuggler().watch(1));
        // two: whichever is told, one is left
        StateJuggler y = told("thing a 1 1 0;thing b 1 1 1;pattern p 2;");
        due("the first of alike ones", 0, y.watch(0));
        StateJuggler seven = told("thing a 1 1 2;thing b 1 1 3;thing c 1 1 4;thing d 1 1 5;thing e 1 1 6;thing f 1 1 7;"
                + "thing g 1 1 8;");
        due("six of seven are left", 2, seven.watch(0));
    }

    /** One of those left lands within 9 beats, and is in hand then or never: no beat behind 9 is the first best one. */
    private void watchLatest() {
        for (int n = 0; n <= 9; n++) {
            StateJuggler x = told("thing a 1 1 " + n + ";thing b 1 1 " + n + ";pattern p 0;");
            due("latest in " + n, n, x.watch(0));
            x.tell(n, false);
            due("b alone is left", 0, x.watch(1));
        }
        // b and c come down upon a, which is not left: no beat tells them apart
        StateJuggler y = told("thing a 1 1 9;thing b 1 1 9;thing c 1 1 9;pattern p 0;");
        y.tell(9, false);
        due("none tells", 0, y.watch(1));
        // nor does what was in hand by another state that was asked ahead of this
        StateJuggler z = told("thing a 1 1 9;thing b 1 1 9;thing c 1 1 9;pattern p 0;pattern q 1;");
        z.hold(0);
        z.beats(10);
        z.use(1);
        z.throwIn(1, 0);
        due("b in each beat", 1, z.inHand(60));
        z.restore(0);
        z.tell(9, false);
        due("none tells yet", 0, z.watch(1));
        due("b and c", 6, z.glitters(1, 1));
    }
}
