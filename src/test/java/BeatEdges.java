/** The boundaries of section II and of promises 6, 8 to 13 and 41 to 43: BEATS, LAWS, things done, undone and held. */
final class BeatEdges extends Edges {
    private static final int[] FAR = {Integer.MIN_VALUE, Integer.MAX_VALUE};

    BeatEdges(Ledger ledger) {
        super(ledger);
    }

    @Override
    void all() {
        hands();
        whereThingsAre();
        lawsChoose();
        lawsWrap();
        lawsDivide();
        vars();
        lawsAreHeld();
        lots();
        heightOfABeat();
        clashes();
        dropsAreLess();
        laid();
        tiredAtMost();
        tiredAtLeast();
        askedAsTheBeatBegan();
        landInABeatLess();
        byHand();
        thing();
        tells();
        throwIn();
        use();
        set();
        beats();
        undo();
        undoAgain();
        hold();
        restore();
        count();
    }

    private void hands() {
        says("BEATS are counted on; at even ones the right hand, at odd ones the left one throws.");
        says("hand: 0 the right one, 1 the left one.");
        StateJuggler x = told("thing a 1 1 0;pattern p 1;pays=hand+10;");
        for (int beat = 0; beat < 6; beat++) {
            due("hand at " + beat, 10 + beat % 2, x.tells(0, 0, 3));
            due("beat", beat + 1, x.beats(1));
        }
        x.beats(60);
        due("hand at 66", 10, x.tells(0, 0, 3));
    }

    private void whereThingsAre() {
        says("A THING is UP (it lands in so many beats: 0 is this one), LAID (down), or DROPPED.");
        StateJuggler x = told("thing a 1 1 1;thing b 1 1 1;pattern p 9 0;");
        due("in one", 1, x.thing(0, 3));
        x.beats(1);
        due("in this one", 0, x.thing(0, 3));
        due("not caught yet", 0, x.thing(0, 4));
        x.beats(1);
        due("laid", 1, x.thing(0, 2));
        due("dropped", 2, x.thing(1, 2));
    }

    /** What FORCE tells of a THING of WEIGHT 2 and EDGE 3; of a LAW, if it is more than 9 and less than 99. */
    private void force(String law, int want) {
        due("force = " + law, want, told("thing a 2 3 0;force=" + law + ";").tells(0, 0, 2));
    }

    private void lawsChoose() {
        says("LAWS: the E of the first if that holds (one less than the other), else the last one;");
        force("if 1<2 then 11 else 12", 11);
        force("if 2<2 then 11 else 12", 12);
        force("if 3<2 then 11 else 12", 12);
        force("if 0-1<0 then 11 else 12", 11);
        force("if 2<1 then 11 else if 1<2 then 12 else if 1<2 then 13 else 14", 12);
        force("if 1<2 then 11 else if 1<2 then 12 else if 1<2 then 13 else if 1<2 then 14 else 15", 11);
        force("if 2<1 then 11 else if 2<1 then 12 else if 2<1 then 13 else if 1<2 then 14 else 15", 14);
        force("if 2<1 then 11 else if 2<1 then 12 else if 2<1 then 13 else if 1<1 then 14 else 15", 15);
    }

    private void lawsWrap() {
        says("ints of 32 bits that wrap, / rounded towards 0;");
        // the most there is, and one more
        String most = "(1024*1024*1024-1+1024*1024*1024)";
        force("if 0<" + most + " then 11 else 12", 11);
        force("if " + most + "+1<0 then 11 else 12", 11);
        force(most + "+1+" + most, -1);
        // the least there is, and one less
        String least = "(0-1024*1024*1024-1024*1024*1024)";
        force("if " + least + "<0 then 11 else 12", 11);
        force("if 0<" + least + "-1 then 11 else 12", 11);
        force(least + "-1-" + most, 0);
        force("1024*1024*4096", 0);
        force("1024*1024*2048*2+7", 7);
        force("if 1024*1024*2048<0 then 11 else 12", 11);
        // 9999 by itself four times: 9996000599960001, of which the lowest 32 bits are 1089432001
        force("9999*9999*9999*9999/9999/9999", 1089432001 / 9999 / 9999);
        // the least by -1 is the least again
        force("if " + least + "/(0-1)<0 then 11 else 12", 11);
        force("7/2", 3);
        force("(0-7)/2", -3);
        force("7/(0-2)", -3);
        force("(0-7)/(0-2)", 3);
        force("1/2", 0);
        force("(0-1)/2", 0);
        force("6/2", 3);
        force("0/5", 0);
    }

    private void lawsDivide() {
        says("a LAW in which something that is looked at is divided by 0 is 0.");
        force("50+1/0", 0);
        force("50+0/0", 0);
        force("50+1/(edge-3)", 0);
        force("50+1/(edge-2)", 51);
        force("50+0*(1/0)", 0);
        force("if 1<2 then 50 else 1/0", 50);
        force("if 2<1 then 1/0 else 50", 50);
        force("if 1<2 then 50 else if 1/0<1 then 51 else 52", 50);
        force("if 2<1 then 50 else if 1/0<1 then 51 else 52", 0);
        force("if 1/0<1 then 50 else 51", 0);
        force("if 0<1/0 then 50 else 51", 0);
        force("if 1/0<1/0 then 50 else 51", 0);
        force("if 1<2 then 1/0 else 50", 0);
        force("if 2<1 then 50 else 1/0", 0);
        // the next LAW is not touched by it
        StateJuggler x = told("thing a 2 3 0;force=1/0;pays=5;tires=5/0;drops=6;");
        int[] want = {0, 6, 0, 5};
        for (int law = 0; law < 4; law++) {
            due("law " + law, want[law], x.tells(0, 0, law));
        }
        StateJuggler often = told("thing a 2 3 0;force=1+(2+(3+(4+1/0)));pays=1+2*3;");
        for (int i = 0; i < 50; i++) {
            due("divided by 0 again", 0, often.tells(0, 0, 2));
            due("the next one again", 7, often.tells(0, 0, 3));
        }
    }

    private void vars() {
        says("Of a THING that is thrown: weight, edge, which: its number; height: to which it is thrown; beat, tired (how tired"
                + " he is), up (how many are UP), caught (how many he caught so far);");
        StateJuggler x = told("thing a 9 8 0;thing b 7 6 5;thing c 1 0 9;pattern p 1;tires=3;"
                + "force=weight*10+edge;drops=0*height;pays=beat*10+up;");
        x.beats(3);
        due("weight and edge of a", 98, x.tells(0, 0, 2));
        due("weight and edge of b", 76, x.tells(1, 0, 2));
        due("weight and edge of c", 10, x.tells(2, 0, 2));
        due("beat and up", 33, x.tells(0, 0, 3));
        StateJuggler y = told("thing a 9 8 0;thing b 7 6 5;thing c 1 0 9;pattern p 1;tires=3;pays=tired*10+caught+which;");
        due("none yet", 0, y.tells(0, 0, 3));
        due("the number of c", 2, y.tells(2, 0, 3));
        y.beats(3);
        due("tired and caught", 93, y.tells(0, 0, 3));
        due("tired, caught and the number of c", 95, y.tells(2, 0, 3));
        // of the one that is thrown in a beat, to the HEIGHT of that beat
        StateJuggler z = told("thing a 9 8 0;thing b 7 6 1;pattern p 2 4;tires=height*10+which;pays=weight*10+edge;");
        z.beats(1);
        due("a to 2", 20, z.count(3));
        due("a of 9 and 8", 98, z.count(8));
        z.beats(1);
        due("b to 4", 61, z.count(3));
        due("b of 7 and 6", 174, z.count(8));
        // one that is DROPPED in the beat in which it is CAUGHT was not caught by him
        StateJuggler dropped = told("thing a 1 1 0;thing b 1 1 1;drops=if which<1 then 100 else 0;force=caught;");
        dropped.beats(2);
        due("one dropped, one caught", 1, dropped.tells(0, 0, 2));
        due("the same by count", 1, dropped.count(7));
    }

    private void held(String law, int what, int least, int most) {
        int[] numbers = {-9999, least - 2, least - 1, least, least + 1, most - 1, most, most + 1, most + 2, 9999};
        for (int number : numbers) {
            StateJuggler x = told("thing a 1 1 0;" + law + "=" + (number < 0 ? "0-" + -number : "" + number) + ";");
            due(law + " of " + number, Math.max(least, Math.min(most, number)), x.tells(0, 3, what));
        }
    }

    private void lawsAreHeld() {
        says("TIRES, held to 0 .. 99;");
        held("tires", 0, 0, 99);
        says("DROPS, held to 0 .. 100;");
        held("drops", 1, 0, 100);
        says("FORCE (height 0): what is in force of a THING that is CAUGHT, held to -99 .. 99;");
        held("force", 2, -99, 99);
        says("PAYS (height 0), held to 0 .. 99.");
        held("pays", 3, 0, 99);
        // so they count, beat by beat
        StateJuggler most = told("thing a 1 1 0;pattern p 1;tires=100;pays=100;force=100;");
        due("force twice", 198, most.rule(2));
        most.beats(2);
        due("tires twice", 198, most.count(3));
        due("pays twice", 198, most.count(8));
        StateJuggler least = told("thing a 1 1 0;pattern p 1;tires=0-1;pays=0-1;force=0-100;drops=0-1;");
        due("force twice, low", -198, least.rule(2));
        least.beats(60);
        due("tires never less", 0, least.count(3));
        due("pays never less", 0, least.count(8));
        due("never dropped", 0, least.count(6));
        // height 0, to whatever it is thrown
        StateJuggler flat = told("thing a 1 1 0;pattern p 9;pays=height+5;force=height+6;");
        due("force at height 0", 6, flat.rule(1));
        flat.beats(1);
        due("pays at height 0", 5, flat.count(8));
    }

    /** LOT n of a SEED and a which, by the document's words, in 64 bits of which the lowest 32 are kept. */
    static int lot(int n, int seed, int which) {
        long h = seed & 0xffffffffL;
        for (long it : new long[] {125, which & 0xffffffffL}) {
            h = (h ^ it) * 1103515245L + 12345L & 0xffffffffL;
            h = h ^ h >> 15;
        }
        return (int) ((h >> 1) % n);
    }

    private void lots() {
        says("LOT n of a SEED and a which: h is the SEED; for each of 125, which: h becomes (h and it, each bit of which is in"
                + " just one) times 1103515245 and 12345 more, then h and h moved 15 bits down (zeros come in), likewise;"
                + " the rest of h, moved 1 bit down likewise, by n (32 bits that wrap).");
        for (int seed : new int[] {0, 1, 2, 42, 124, 125, 126, 214, 5000, 9998, 9999}) {
            for (int beat : new int[] {0, 1, 2, 9, 60, 61, 300}) {
                int lot = lot(100, seed, 4 * beat);
                StateJuggler x = told("thing a 1 1 0;pattern p 1;seed " + seed + ";drops=if beat<" + beat
                        + " then 0 else if beat<" + (beat + 1) + " then " + lot + " else " + (lot(100, seed, 4 * beat + 4) + 1)
                        + ";");
                for (int gone = 0; gone < beat; gone += 60) {
                    x.beats(Math.min(60, beat - gone));
                }
                x.beats(1);
                due("seed " + seed + " beat " + beat + ": not less", 0, x.count(6));
                x.beats(1);
                due("seed " + seed + " beat " + (beat + 1) + ": less", 1, x.count(6));
            }
        }
    }

    private void heightOfABeat() {
        says("The HEIGHT of a beat is the one of the PATTERN in use with the number (the beats since it is in use, by how many"
                + " it has: the rest), or that set by hand for this beat.");
        StateJuggler x = told("pattern p 1 2 3 4 5 6 7 8;pattern q 9;pattern r 4 0 2;");
        for (int beat = 0; beat < 17; beat++) {
            due("p at " + beat, beat % 8 + 1, x.count(10));
            x.beats(1);
        }
        x.use(2);
        int[] three = {4, 0, 2};
        for (int since = 0; since < 7; since++) {
            due("r since " + since, three[since % 3], x.count(10));
            x.beats(1);
        }
        x.use(1);
        for (int since = 0; since < 3; since++) {
            due("q since " + since, 9, x.count(10));
            x.beats(1);
        }
        x.use(0);
        x.set(0);
        due("set", 0, x.count(10));
        x.beats(1);
        due("behind the one set", 2, x.count(10));
        x.beats(7);
        due("the first again", 1, x.count(10));
    }

    private void clashes() {
        says("A BEAT: of all THINGS that land in it the first is CAUGHT, all others are DROPPED (a CLASH);");
        StateJuggler one = told("thing a 1 1 0;thing b 1 1 1;pattern p 5;");
        one.beats(1);
        due("one alone", 0, one.count(6));
        StateJuggler two = told("thing a 1 1 1;thing b 1 1 0;thing c 1 1 0;pattern p 5;");
        two.beats(1);
        due("the second of two", 4, two.count(5));
        due("the first of two", 1, two.thing(1, 4));
        StateJuggler seven = told("thing a 1 1 0;thing b 1 1 0;thing c 1 1 0;thing d 1 1 0;thing e 1 1 0;thing f 1 1 0;"
                + "thing g 1 1 0;pattern p 5;");
        seven.beats(1);
        due("six of seven", 126, seven.count(5));
        due("six were dropped", 6, seven.count(6));
        due("one was caught", 1, seven.count(7));
        due("the first is up", 1, seven.count(4));
    }

    private void dropsAreLess() {
        says("if LOT 100 of the SEED and 4 * the beat is less than what DROPS tells of the one that is CAUGHT and the HEIGHT,"
                + " it is DROPPED;");
        // LOT 100 of 42 and 0 is 0, of 131 it is 1, of 34 it is 98, of 214 it is 99
        int[][] lots = {{42, 0}, {131, 1}, {34, 98}, {214, 99}};
        for (int[] lot : lots) {
            for (int drops = 0; drops <= 101; drops++) {
                StateJuggler x = told("thing a 1 1 0;seed " + lot[0] + ";drops=" + drops + ";tires=7;pays=3;");
                x.beats(1);
                boolean gone = lot[1] < drops;
                due("LOT " + lot[1] + " drops " + drops, gone ? 2 : 0, x.thing(0, 2));
                due("tired", gone ? 0 : 7, x.count(3));
                due("earned", gone ? 0 : 3, x.count(8));
                due("caught", gone ? 0 : 1, x.count(7));
            }
        }
        // by the HEIGHT, and by the one that is CAUGHT alone
        StateJuggler x = told("thing a 1 1 0;thing b 1 1 0;pattern p 4;drops=if which<1 then 0 else 100;");
        x.beats(1);
        due("a is safe", 0, x.thing(0, 2));
        StateJuggler y = told("thing a 1 1 0;pattern p 4;drops=if height<4 then 0 else 100;");
        y.set(3);
        y.beats(1);
        due("3 is safe", 0, y.thing(0, 2));
        y.undo();
        y.undo();
        y.beats(1);
        due("4 is not", 2, y.thing(0, 2));
    }

    private void laid() {
        says("else what PAYS tells of it is earned, it is thrown to the HEIGHT: it lands in so many beats (0: it is LAID),");
        for (int height = 0; height <= 9; height++) {
            StateJuggler x = told("thing a 1 1 0;pattern p " + height + ";pays=6;");
            x.beats(1);
            due("where by " + height, height == 0 ? 1 : 0, x.thing(0, 2));
            due("lands by " + height, height == 0 ? -2 : height - 1, x.thing(0, 3));
            due("laid by " + height, height == 0 ? 1 : 0, x.count(17));
            due("caught by " + height, 1, x.thing(0, 4));
            due("earned by " + height, 6, x.count(8));
        }
    }

    private void tiredAtMost() {
        says("and he is as much more tired as TIRES tells (999 at most).");
        StateJuggler x = told("thing a 1 1 0;pattern p 1;tires=if beat<10 then 99 else if beat<11 then 8 else 1;");
        x.beats(10);
        due("ten times 99", 990, x.count(3));
        x.beats(1);
        due("998", 998, x.count(3));
        x.beats(1);
        due("999", 999, x.count(3));
        x.beats(1);
        due("1000 is 999", 999, x.count(3));
        StateJuggler two = told("thing a 1 1 0;pattern p 1;tires=if beat<10 then 99 else if beat<11 then 8 else 2;");
        two.beats(12);
        due("998 and 2", 999, two.count(3));
        StateJuggler y = told("thing a 1 1 0;pattern p 1;tires=99;");
        y.beats(11);
        due("990 and 99", 999, y.count(3));
        y.beats(60);
        due("still", 999, y.count(3));
        due("ahead too", 999, y.then(60, 0));
    }

    private void tiredAtLeast() {
        says("If none lands, he is less tired by RESTS (0 at least).");
        StateJuggler x = told("thing a 1 1 0;pattern p 9;tires=5;rests 2;");
        int[] want = {0, 5, 3, 1, 0, 0, 0, 0, 0, 0, 5, 3};
        for (int beat = 0; beat < want.length; beat++) {
            due("tired at " + beat, want[beat], x.count(3));
            x.beats(1);
        }
        StateJuggler y = told("thing a 1 1 0;pattern p 9;tires=4;rests 4;");
        y.beats(2);
        due("4 less 4", 0, y.count(3));
        // with one in hand he does not rest, be it DROPPED
        StateJuggler z = told("thing a 1 1 0;thing b 1 1 1;pattern p 9;tires=5;drops=if beat<1 then 0 else 100;rests 2;");
        z.beats(2);
        due("dropped, no rest", 5, z.count(3));
        z.beats(1);
        due("rest", 3, z.count(3));
    }

    private void askedAsTheBeatBegan() {
        says("All is asked as the beat began, but for THINGS that are DROPPED in a CLASH: up is less by these.");
        StateJuggler x = told("thing a 1 1 0;thing b 1 1 0;thing c 1 1 0;thing d 1 1 5;pattern p 3;pays=up;tires=up*10;");
        x.beats(1);
        due("pays by up 2", 2, x.count(8));
        due("tires by up 2", 20, x.count(3));
        StateJuggler drops = told("thing a 1 1 0;thing b 1 1 0;thing c 1 1 0;drops=if up<2 then 100 else 0;");
        drops.beats(1);
        due("drops by up 1", 3, drops.count(6));
        StateJuggler force = told("thing a 1 1 0;thing b 1 1 0;thing c 1 1 0;force=up*10;");
        due("force by up 1", 10, force.rule(1));
        // the last THING, laid by this throw, is UP yet
        StateJuggler last = told("thing a 1 1 0;pattern p 0;pays=up+1;tires=caught+4;");
        last.beats(1);
        due("up with it", 2, last.count(8));
        due("caught without it", 4, last.count(3));
        StateJuggler tired = told("thing a 1 1 0;pattern p 1;tires=tired+7;pays=tired;force=tired;");
        tired.beats(2);
        due("7 and 14", 21, tired.count(3));
        due("paid 0 and 7", 7, tired.count(8));
    }

    private void landInABeatLess() {
        says("Then all UP, that one too, land in a beat less; it is the next beat.");
        StateJuggler x = told("thing a 1 1 0;thing b 1 1 9;thing c 1 1 1;pattern p 4;");
        due("the next beat", 1, x.beats(1));
        due("that one too", 3, x.thing(0, 3));
        due("b", 8, x.thing(1, 3));
        due("c", 0, x.thing(2, 3));
    }

    private void byHand() {
        says("By hand: a THING that is not UP is THROWN IN: it is UP, to land in n beats; another PATTERN comes into use from"
                + " this beat on; a HEIGHT is SET for this beat alone; BEATS go by.");
        StateJuggler x = told("thing a 1 1 0;pattern p 0;pattern q 6 2;");
        x.beats(1);
        x.throwIn(0, 0);
        x.use(1);
        due("from this beat on", 6, x.count(10));
        x.set(1);
        x.beats(1);
        due("by the one set", 0, x.thing(0, 3));
        due("for that beat alone", 2, x.count(10));
    }

    private void thing() {
        says("`int thing(int thing, int what)`: Of a THING: what 0 WEIGHT, 1 EDGE, 2: 0 UP, 1 LAID, 2 DROPPED, 3 in how many"
                + " beats it lands (-2: not UP), 4 how often it was CAUGHT and not DROPPED. NONE for others.");
        StateJuggler x = told("thing a 1 2 9;thing b 1 1 0;thing c 1 1 0;thing d 1 1 1;thing e 1 1 9;thing f 1 1 9;"
                + "thing g 8 7 6;pattern p 0 9;drops=if beat<1 then 0 else 100;");
        x.beats(2);
        // b laid, c dropped in the clash, d by DROPS
        int[][] want = {{1, 2, 0, 7, 0}, {1, 1, 1, -2, 1}, {1, 1, 2, -2, 0}, {1, 1, 2, -2, 0}, {1, 1, 0, 7, 0},
            {1, 1, 0, 7, 0}, {8, 7, 0, 4, 0}};
        for (int thing = -2; thing <= 8; thing++) {
            for (int what = -2; what <= 6; what++) {
                boolean there = thing >= 0 && thing < 7 && what >= 0 && what < 5;
                due("thing " + thing + " what " + what, there ? want[thing][what] : -1, x.thing(thing, what));
            }
        }
        for (int far : FAR) {
            due("thing " + far, -1, x.thing(far, 0));
            due("what " + far, -1, x.thing(0, far));
        }
        StateJuggler one = told("thing a 1 2 9;");
        due("the last one", 1, one.thing(0, 0));
        due("one more", -1, one.thing(1, 0));
    }

    private void tells() {
        says("`int tells(int thing, int height, int what)`: What a LAW tells now of a THING thrown to a HEIGHT (0 .. 9): what"
                + " 0 TIRES, 1 DROPS, of one CAUGHT (HEIGHT not looked at) 2 FORCE, 3 PAYS; -100: no such ones.");
        StateJuggler x = told("thing a 1 1 0;thing b 2 2 1;tires=height+20;drops=height+30;force=height+40;pays=height+50;");
        for (int height : new int[] {Integer.MIN_VALUE, -2, -1, 0, 1, 8, 9, 10, 11, Integer.MAX_VALUE}) {
            boolean there = height >= 0 && height <= 9;
            due("tires at " + height, there ? 20 + height : -100, x.tells(1, height, 0));
            due("drops at " + height, there ? 30 + height : -100, x.tells(1, height, 1));
            due("force at " + height, 40, x.tells(1, height, 2));
            due("pays at " + height, 50, x.tells(1, height, 3));
        }
        for (int what : new int[] {Integer.MIN_VALUE, -1, 4, Integer.MAX_VALUE}) {
            due("what " + what, -100, x.tells(0, 0, what));
        }
        for (int thing : new int[] {Integer.MIN_VALUE, -1, 2, 7, Integer.MAX_VALUE}) {
            for (int what = 0; what < 4; what++) {
                due("thing " + thing + " what " + what, -100, x.tells(thing, 0, what));
            }
        }
        due("thing 0", 20, x.tells(0, 0, 0));
    }

    private void throwIn() {
        says("`boolean throwIn(int thing, int n)`: THROWN IN, to land in n beats (0 .. 9): true; false, and nothing happens: it"
                + " is UP, no such ones.");
        for (int n = 0; n <= 9; n++) {
            StateJuggler x = told("thing a 1 1 0;thing b 1 1 0;pattern p 0;");
            x.beats(1);
            due("laid one, in " + n, true, x.throwIn(0, n));
            due("dropped one, in " + n, true, x.throwIn(1, n));
            due("it lands in " + n, n, x.thing(0, 3));
            due("they are up", 3, x.count(4));
            due("they can be undone", 3, x.count(12));
            due("a is up", false, x.throwIn(0, n));
        }
        due("f is not up", 2, busy().thing(5, 2));
        due("f can be", true, busy().throwIn(5, 9));
        for (int n : new int[] {Integer.MIN_VALUE, -1, 10, Integer.MAX_VALUE}) {
            nothingHappens("throwIn f in " + n, this::busy, x -> asLong(x.throwIn(5, n)), 0);
        }
        for (int thing : new int[] {Integer.MIN_VALUE, -1, 7, Integer.MAX_VALUE}) {
            nothingHappens("throwIn " + thing, this::busy, x -> asLong(x.throwIn(thing, 1)), 0);
        }
        due("g is up", 0, busy().thing(6, 2));
        nothingHappens("throwIn of one UP", this::busy, x -> asLong(x.throwIn(6, 1)), 0);
    }

    private void use() {
        says("`boolean use(int pattern)`: A PATTERN comes into use: true; false: no such one.");
        StateJuggler x = told("pattern p 1;pattern q 2;pattern r 3;pattern s 4;pattern t 5;");
        for (int pattern = 0; pattern < 5; pattern++) {
            due("use " + pattern, true, x.use(pattern));
            due("in use", pattern, x.count(9));
            due("its height", pattern + 1, x.count(10));
        }
        for (int pattern : new int[] {Integer.MIN_VALUE, -1, 5, Integer.MAX_VALUE}) {
            nothingHappens("use " + pattern, this::busy, y -> asLong(y.use(pattern)), 0);
        }
        StateJuggler one = told("pattern p 1 2 3;");
        one.beats(2);
        due("one more than there are", false, one.use(1));
        due("the one in use", true, one.use(0));
        due("it begins anew", 1, one.count(10));
        due("a thing done", 2, one.count(12));
        due("no pattern", false, told("thing a 1 1 1;").use(0));
    }

    private void set() {
        says("`boolean set(int height)`: A HEIGHT (0 .. 9) is SET for this beat: true (be the PATTERN's alike or not); false,"
                + " and nothing happens: it is SET so already, no such HEIGHT.");
        StateJuggler x = told("pattern p 4;");
        for (int height = 0; height <= 9; height++) {
            due("set " + height, true, x.set(height));
            due("height", height, x.count(10));
            due("set again", false, x.set(height));
            due("things done", height + 1, x.count(12));
        }
        StateJuggler alike = told("pattern p 4;");
        due("alike", true, alike.set(4));
        due("alike, already", false, alike.set(4));
        alike.beats(1);
        due("in another beat", true, alike.set(4));
        due("without a pattern, alike", true, new StateJuggler().set(3));
        for (int height : new int[] {Integer.MIN_VALUE, -2, -1, 10, Integer.MAX_VALUE}) {
            nothingHappens("set " + height, this::busy, y -> asLong(y.set(height)), 0);
        }
        due("4 is set", 4, busy().count(10));
        nothingHappens("set so already", this::busy, y -> asLong(y.set(4)), 0);
        // -1 is no HEIGHT where none is set either
        nothingHappens("set -1, none set", () -> told("pattern p 4;"), y -> asLong(y.set(-1)), 0);
    }

    private void beats() {
        says("`int beats(int n)`: n BEATS (0 .. 60; 0 is no thing done) go by: which it is; NONE, and nothing happens: no such"
                + " n.");
        StateJuggler x = told("thing a 1 1 0;pattern p 1;");
        due("0", 0, x.beats(0));
        due("no thing done", 0, x.count(12));
        due("1", 1, x.beats(1));
        due("59", 60, x.beats(59));
        due("60", 120, x.beats(60));
        due("caught in each", 120, x.count(7));
        due("three things done", 3, x.count(12));
        int beat = busy().count(2);
        nothingHappens("beats 0", this::busy, y -> y.beats(0), beat);
        for (int n : new int[] {Integer.MIN_VALUE, -1, 61, Integer.MAX_VALUE}) {
            nothingHappens("beats " + n, this::busy, y -> y.beats(n), -1);
        }
    }

    private void undo() {
        says("`boolean undo()`: The last thing done (throwIn, use, set, beats) is undone: true; false: there is none (the last"
                + " 40 can be).");
        due("none", false, new StateJuggler().undo());
        for (int done : new int[] {1, 39, 40, 41, 42, 79, 80, 81, 120}) {
            StateJuggler x = told("thing a 1 1 0;pattern p 1;");
            for (int i = 0; i < done; i++) {
                x.beats(1);
            }
            int can = Math.min(40, done);
            due("things that can be undone of " + done, can, x.count(12));
            for (int i = 1; i <= can; i++) {
                due("undo " + i + " of " + done, true, x.undo());
                due("beat", done - i, x.count(2));
                due("left", can - i, x.count(12));
            }
            due("no more of " + done, false, x.undo());
            due("the beat stays", done - can, x.count(2));
        }
        // each of the four
        StateJuggler x = told("thing a 1 1 0;pattern p 0 5;pattern q 7;");
        String[] sights = new String[4];
        sights[0] = Sight.of(x);
        x.beats(1);
        sights[1] = Sight.of(x);
        x.throwIn(0, 9);
        sights[2] = Sight.of(x);
        x.use(1);
        sights[3] = Sight.of(x);
        x.set(2);
        for (int i = 3; i >= 0; i--) {
            due("undo of thing " + i, true, x.undo());
            due("as ahead of thing " + i, true, sights[i].equals(Sight.of(x)));
        }
        due("no fifth", false, x.undo());
        nothingHappens("undo without any", () -> told("thing a 1 1 0;pattern p 1;"), y -> asLong(y.undo()), 0);
    }

    /** Done, undone and done again: the ring of the last 40 comes round. */
    private void undoAgain() {
        StateJuggler x = told("thing a 1 1 0;pattern p 1;");
        for (int i = 0; i < 50; i++) {
            x.beats(1);
        }
        for (int i = 0; i < 25; i++) {
            x.undo();
        }
        due("beat 25", 25, x.count(2));
        due("15 left", 15, x.count(12));
        for (int i = 0; i < 26; i++) {
            x.beats(2);
        }
        due("40 again", 40, x.count(12));
        for (int i = 0; i < 26; i++) {
            x.undo();
        }
        due("beat 25 again", 25, x.count(2));
        for (int i = 0; i < 14; i++) {
            due("the older ones", true, x.undo());
        }
        due("the 15th is gone", false, x.undo());
        due("beat 11", 11, x.count(2));
    }

    private void hold() {
        says("`boolean hold(int slot)`: All that goes on (not what is TOLD, nor the tape) is held in a SLOT (0 .. 2): true;"
                + " false: no such one.");
        StateJuggler x = told("thing a 1 1 0;pattern p 1;");
        for (int slot = 0; slot < 3; slot++) {
            x.beats(1);
            due("slots that hold " + slot, slot, x.count(14));
            due("hold " + slot, true, x.hold(slot));
        }
        due("three", 3, x.count(14));
        due("again", true, x.hold(0));
        due("three yet", 3, x.count(14));
        due("no thing done", 3, x.count(12));
        for (int slot : new int[] {Integer.MIN_VALUE, -1, 3, Integer.MAX_VALUE}) {
            nothingHappens("hold " + slot, this::busy, y -> asLong(y.hold(slot)), 0);
        }
        // neither what is TOLD nor the tape
        StateJuggler y = busy();
        y.hold(1);
        y.tell(9, true);
        y.back(3);
        y.restore(1);
        due("told since", 6, y.count(13));
        due("the tape since", 10, y.count(11));
        // what is undone later stays held
        StateJuggler z = told("thing a 1 1 0;pattern p 1;");
        z.beats(5);
        z.hold(1);
        z.undo();
        due("restore what was undone", true, z.restore(1));
        due("beat 5", 5, z.count(2));
    }

    private void restore() {
        says("`boolean restore(int slot)`: It goes on from what a SLOT holds (that stays there; nothing can be undone then):"
                + " true; false, and nothing happens: no such one, nothing is held.");
        for (int slot = 0; slot < 3; slot++) {
            StateJuggler x = busy();
            x.hold(slot);
            String sight = Sight.of(x).replaceAll("count 1[24] \\d+", "");
            x.beats(7);
            x.use(3);
            for (int times = 0; times < 2; times++) {
                due("restore " + slot, true, x.restore(slot));
                due("nothing can be undone", 0, x.count(12));
                due("undo", false, x.undo());
            }
            due("as it was held", true, sight.equals(Sight.of(x).replaceAll("count 1[24] \\d+", "")));
            x.beats(1);
            due("one thing done since", 1, x.count(12));
        }
        for (int slot : new int[] {Integer.MIN_VALUE, -1, 3, Integer.MAX_VALUE}) {
            nothingHappens("restore " + slot, this::busy, y -> asLong(y.restore(slot)), 0);
        }
        nothingHappens("restore of nothing held", this::busy, y -> asLong(y.restore(1)), 0);
        // the HEIGHT that is SET, and since when the PATTERN is in use, are held too
        StateJuggler x = told("pattern p 1 2 3;pattern q 4 5;");
        x.beats(1);
        x.use(1);
        x.set(9);
        x.hold(2);
        x.beats(2);
        x.use(0);
        x.restore(2);
        due("set so already", false, x.set(9));
        x.beats(1);
        due("q's second", 5, x.count(10));
    }

    private void count() {
        says("`int count(int what)`: 0 THINGS, 1 PATTERNS, 2 the beat, 3 how tired, 4 THINGS UP (bits), 5 DROPPED now (bits), 6"
                + " how many were DROPPED so far, 7 how many were CAUGHT and not DROPPED so far, 8 earned so far, 9 the PATTERN"
                + " in use (-2: none), 10 the HEIGHT of this beat, 11 bytes on the tape, 12 things that can be undone, 13 TOLD"
                + " ones, 14 SLOTS that hold something, 15 WEIGHTS of all UP, 16 WEIGHTS of all DROPPED now, 17 LAID ones"
                + " (bits). NONE for others.");
        StateJuggler x = told("thing a 1 1 9;thing b 2 1 0;thing c 3 1 0;thing d 4 1 1;thing e 5 1 9;thing f 6 1 2;"
                + "thing g 9 1 9;pattern p 0 9 8;pattern q 7;drops=if beat<1 then 0 else if beat<2 then 100 else 0;tires=6;"
                + "pays=5;");
        x.beats(3);
        x.throwIn(2, 9);
        x.use(1);
        x.tell(0, true);
        x.tell(1, true);
        x.hold(1);
        x.feed(0, 0, 0, 0, 0);
        // b laid, c dropped in the clash and thrown in again, d dropped by DROPS, f thrown to 8
        int[] want = {7, 2, 3, 12, 117, 8, 2, 2, 10, 1, 7, 20, 3, 2, 1, 24, 4, 2};
        for (int what = 0; what < want.length; what++) {
            due("count " + what, want[what], x.count(what));
        }
        for (int what : new int[] {Integer.MIN_VALUE, -2, -1, 18, 19, Integer.MAX_VALUE}) {
            due("count " + what, -1, x.count(what));
        }
        due("no pattern in use", -2, told("thing a 1 1 1;").count(9));
        due("pattern 0 in use", 0, told("pattern p 1;").count(9));
    }
}
