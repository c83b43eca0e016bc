/** Promises 1 to 5: a new object, feed, back, read, place. */
final class TapeTest {
    private static final Check CHECK = new Check();

    public static void main(String[] args) {
        newObject();
        feeding();
        goingBack();
        reading();
        tokens();
        syntax();
        room();
        tokenRoom();
        tokenRoomAnywhere();
        senses();
        faultChangesNothing();
        goodTextBeginsAnew();
        thirdText();
        CHECK.end();
    }

    private static void newObject() {
        StateJuggler x = new StateJuggler();
        int[] counts = {0, 0, 0, 0, 0, 0, 0, 0, 0, -2, 3, 0, 0, 0, 0, 0, 0, 0};
        for (int what = 0; what < counts.length; what++) {
            CHECK.due("new: count " + what, counts[what], x.count(what));
        }
        CHECK.due("new: place", StateJuggler.NONE, x.place());
        CHECK.due("new: thing", -1, x.thing(0, 0));
        CHECK.due("new: pattern", -1, x.pattern(0, -1));
        CHECK.due("new: undo", false, x.undo());
    }

    private static void feeding() {
        StateJuggler x = new StateJuggler();
        for (int i = 1; i <= 100; i++) {
            CHECK.due("feed " + i, 20 * i, x.feed(0x20202020, 0x20202020, 0x20202020, 0x20202020, 0x20202020));
        }
        CHECK.due("feed 101", -1, x.feed(0, 0, 0, 0, 0));
        CHECK.due("tape of 2000", 2000, x.count(11));
        CHECK.due("back 19", 1981, x.back(19));
        CHECK.due("feed at 1981", -1, x.feed(0, 0, 0, 0, 0));
        CHECK.due("tape at 1981", 1981, x.count(11));
        CHECK.due("back 1", 1980, x.back(1));
        // "thi" "ng a" ... the highest byte first: at 1980 stands a good TELL
        CHECK.due("feed at 1980", 2000, x.feed(0x7468696e, 0x67206120, 0x34203520, 0x363b2020, 0x20202020));
        CHECK.due("read of 2000", 0, x.read());
        CHECK.due("weight", 4, x.thing(0, 0));
        CHECK.due("edge", 5, x.thing(0, 1));
        CHECK.due("lands", 6, x.thing(0, 3));
        // the fifth word comes last
        x.feed(0x20202020, 0x20202020, 0x20202020, 0x20202020, 0x20202041);
        CHECK.due("read of an A", 1, x.read());
        CHECK.due("place of an A", 19, x.place());
        x.feed(0xff202020, 0, 0, 0, 0);
        CHECK.due("read of 255", 1, x.read());
        CHECK.due("place of 255", 0, x.place());
    }

    private static void goingBack() {
        StateJuggler x = new StateJuggler();
        CHECK.due("back 0 of nothing", 0, x.back(0));
        CHECK.due("back 1 of nothing", -1, x.back(1));
        x.feed(0, 0, 0, 0, 0);
        CHECK.due("back -1", -1, x.back(-1));
        CHECK.due("back least", -1, x.back(Integer.MIN_VALUE));
        CHECK.due("back most", -1, x.back(Integer.MAX_VALUE));
        CHECK.due("back 21", -1, x.back(21));
        CHECK.due("tape kept", 20, x.count(11));
        CHECK.due("back 0", 20, x.back(0));
        CHECK.due("back 7", 13, x.back(7));
        CHECK.due("back 13", 0, x.back(13));
        CHECK.due("read of nothing left", 0, x.read());
    }

    private static void reading() {
        CHECK.fault("", 0, -1);
        CHECK.fault(" \t\r\n", 0, -1);
        CHECK.fault("thing a 1 0 0;", 0, -1);
        StateJuggler x = CHECK.told("thing a 9 9 9; pattern p 0 9 1 8 2 7 3 6; thing b 1 0 0; pattern q 5;");
        CHECK.due("things", 2, x.count(0));
        CHECK.due("patterns", 2, x.count(1));
        CHECK.due("b weight", 1, x.thing(1, 0));
        CHECK.due("p 8 heights", 8, x.pattern(0, -1));
        CHECK.due("q height", 5, x.pattern(1, 0));
        CHECK.due("tape behind read", 0, x.count(11));
    }

    private static void tokens() {
        CHECK.fault("thing a1 2 3;", 0, -1);
        CHECK.fault("thing\ta\n1\r2 3 ;pattern\tp 3;", 0, -1);
        CHECK.fault("tires=if weight<2then 3else(4+edge)*2;rests 3;", 0, -1);
        CHECK.fault("thing abcdefgh 1 2 3;", 0, -1);
        CHECK.fault("thing abcdefghi 1 2 3;", 1, 6);
        CHECK.fault("thing things 1 2 3;", 0, -1);
        CHECK.fault("thing a 0009 0000 0001;", 0, -1);
        CHECK.fault("thing a 00009 0 1;", 1, 8);
        CHECK.fault("thing a 99999999999999999999 0 1;", 1, 8);
        CHECK.fault("thinga 1 2 3;", 1, 0);
        CHECK.fault("thing aB 1 2 3;", 1, 7);
        CHECK.fault("Thing a 1 2 3;", 1, 0);
        CHECK.fault("thing a_ 1 2 3;", 1, 7);
        CHECK.fault("thing a 1 2 3;" + (char) 11, 1, 14);
        CHECK.fault("thing a 1 2 3;" + (char) 0, 1, 14);
        CHECK.fault((char) 160 + "thing a 1 2 3;", 1, 0);
        CHECK.fault("thing a 1 2 3; >", 1, 15);
        for (String word : ("thing pattern tires drops force pays rests seed if then else weight edge height beat tired "
                + "up which caught hand").split(" ")) {
            CHECK.fault("thing " + word + " 1 2 3;", 1, 6);
            CHECK.fault("thing " + word + "x 1 2 3;", 0, -1);
        }
    }

    private static void syntax() {
        CHECK.fault("x", 1, 0);
        CHECK.fault(";", 1, 0);
        CHECK.fault("thing", 1, 5);
        CHECK.fault("thing  ", 1, 7);
        CHECK.fault("thing a 1 2;", 1, 11);
        CHECK.fault("thing a 1 2 3", 1, 13);
        CHECK.fault("thing a 1 2 3 4;", 1, 14);
        CHECK.fault("thing 1 2 3;", 1, 6);
        CHECK.fault("pattern p;", 1, 9);
        CHECK.fault("pattern p 3;;", 1, 12);
        CHECK.fault("pattern p 3 q;", 1, 12);
        CHECK.fault("rests;", 1, 5);
        CHECK.fault("rests 1 2;", 1, 8);
        CHECK.fault("seed a;", 1, 5);
        CHECK.fault("seed 1 thing", 1, 7);
        CHECK.fault("tires 3;", 1, 6);
        CHECK.fault("tires = ;", 1, 8);
        CHECK.fault("drops = 1 < 2;", 1, 10);
        CHECK.fault("force = if 1 then 2 else 3;", 1, 13);
        CHECK.fault("pays = if 1 < 2 then 3;", 1, 22);
        CHECK.fault("pays = if 1 < 2 < 3 then 3 else 4;", 1, 16);
        CHECK.fault("pays = 1 if 1 < 2 then 3 else 4;", 1, 9);
        CHECK.fault("tires = (1;", 1, 10);
        CHECK.fault("tires = 1);", 1, 9);
        CHECK.fault("tires = ();", 1, 9);
        CHECK.fault("tires = 1 + ;", 1, 12);
        CHECK.fault("tires = -1;", 1, 8);
        CHECK.fault("tires = 1 2;", 1, 10);
        CHECK.fault("tires = a;", 1, 8);
        CHECK.fault("tires = (if 1 < 2 then 3 else 4);", 1, 9);
        CHECK.fault("tires = rests;", 1, 8);
    }

    private static String times(int n, String text) {
        return text.repeat(n);
    }

    private static void room() {
        String things = "thing a 1 1 1;thing b 1 1 1;thing c 1 1 1;thing d 1 1 1;thing e 1 1 1;thing f 1 1 1;"
                + "thing g 1 1 1;";
        CHECK.fault(things, 0, -1);
        CHECK.fault(things + " thing h 1 1 1;", 2, 99);
        CHECK.fault(things + " thing", 2, 99);
        CHECK.fault(things + " x thing h 1 1 1;", 1, 99);
        CHECK.fault(things + " thing a 0 1 1;", 2, 99);
        String patterns = "pattern a 1;pattern b 1;pattern c 1;pattern d 1;pattern e 1;";
        CHECK.fault(patterns, 0, -1);
        CHECK.fault(patterns + "pattern f 1;", 2, 60);
        CHECK.fault(patterns + "pattern 1", 2, 60);
        CHECK.fault(patterns + "tires = 1; tires = 2; rests 1; rests 2; seed 1; seed 2;", 0, -1);
        CHECK.fault("pattern p 1 2 3 4 5 6 7 8;", 0, -1);
        CHECK.fault("pattern p 1 2 3 4 5 6 7 8 9;", 2, 26);
        CHECK.fault("pattern p 1 2 3 4 5 6 7 8 99999;", 1, 26);
        CHECK.fault("pattern p 1 2 3 4 5 6 7 8 9 x", 2, 26);
        String ifs = times(4, "if 1 < 2 then 3 else ");
        CHECK.fault("tires = " + ifs + "1;", 0, -1);
        CHECK.fault("tires = " + ifs + "1; drops = " + ifs + "1;", 0, -1);
        CHECK.fault("tires = " + ifs + "if 1 < 2 then 3 else 4;", 2, 92);
        CHECK.fault("tires = " + ifs + "if;", 2, 92);
        CHECK.fault("tires = ((((((1))))));", 0, -1);
        CHECK.fault("tires = (((((((1)))))));", 2, 14);
        CHECK.fault("tires = (1)+(1)*(1)-(1)/(1)+(1)+(1)+((((((1))))));", 0, -1);
        CHECK.fault("tires = if ((((((1)))))) < ((((((2)))))) then (((((((1)))))) else 1;", 2, 52);
        CHECK.fault("tires = ((((((1)))))) + ((1);", 1, 28);
    }

    /** "tires" "=" and n numbers with a sign between any two: 2 * n + 1 TOKENS. */
    private static String tokensOfLaw(int n) {
        return "tires=1" + times(n - 1, "+1");
    }

    private static void tokenRoom() {
        CHECK.fault(tokensOfLaw(199) + ";", 0, -1);
        // the 401st is the last number
        String law = tokensOfLaw(200);
        CHECK.fault(law + ";", 2, law.length() - 1);
        CHECK.fault(tokensOfLaw(199) + "+;", 1, tokensOfLaw(199).length() + 1);
        // the 401st is the ;
        String odd = "rests 1;" + tokensOfLaw(198);
        CHECK.fault(odd + ";", 2, odd.length());
        CHECK.fault(odd + ")", 1, odd.length());
        CHECK.fault(odd + "A", 1, odd.length());
        CHECK.fault(odd + "  ", 1, odd.length() + 2);
        // the 401st begins a TELL
        CHECK.fault(tokensOfLaw(199) + "; seed 1;", 2, tokensOfLaw(199).length() + 2);
        CHECK.fault(tokensOfLaw(199) + "; = 1;", 1, tokensOfLaw(199).length() + 2);
        CHECK.fault(times(1000, ";"), 1, 0);
        CHECK.fault(times(100, "seed 1;") + times(100, "seed 2;"), 2, 133 * 7 + 5);
    }

    /** Whichever TOKEN of a text is the 401st: ROOM at it. */
    private static void tokenRoomAnywhere() {
        String[] tokens = ("thing a 1 2 3 ; pattern p 1 2 ; tires = if ( 1 ) < 2 then edge else 3 + 4 * 5 ; rests 1 ; seed 1 ;"
                + " drops = if 1 < 2 then 3 else if 2 < 3 then ( 1 + ( up ) ) else 7 ;").split(" ");
        for (int i = 0; i < tokens.length; i++) {
            // as many TOKENS ahead of the sample that its i-th is the 401st
            int ahead = 400 - i;
            StringBuilder text = new StringBuilder();
            if (ahead % 2 == 1) {
                text.append("seed 1;");
                ahead -= 3;
            }
            text.append(tokensOfLaw((ahead - 2) / 2)).append(";");
            int place = -1;
            for (int j = 0; j < tokens.length; j++) {
                text.append(' ');
                place = j == i ? text.length() : place;
                text.append(tokens[j]);
            }
            CHECK.fault(text.toString(), 2, place);
        }
    }

    private static void senses() {
        CHECK.fault("thing a 1 1 1; thing a 1 1 1;", 3, 21);
        CHECK.fault("thing a 1 1 1; pattern a 3;", 3, 23);
        CHECK.fault("pattern a 3; pattern b 3; pattern a 3;", 3, 34);
        CHECK.fault("pattern ab 3; thing ba 1 1 1; thing a 1 1 1; thing b 1 1 1; thing aab 1 1 1;", 0, -1);
        CHECK.fault("thing a 0 1 1;", 5, 8);
        CHECK.fault("thing a 10 1 1;", 5, 8);
        CHECK.fault("thing a 1 10 1;", 5, 10);
        CHECK.fault("thing a 1 1 10;", 5, 12);
        CHECK.fault("thing a 1 0 0;", 0, -1);
        CHECK.fault("thing a 9 9 9;", 0, -1);
        CHECK.fault("pattern p 10;", 5, 10);
        CHECK.fault("pattern p 0 1 2 10 11;", 5, 16);
        CHECK.fault("rests 99; rests 0;", 0, -1);
        CHECK.fault("rests 100;", 5, 6);
        CHECK.fault("seed 9999; seed 0;", 0, -1);
        CHECK.fault("tires = 9999 + 0000;", 0, -1);
        CHECK.fault("thing a 1 1 1; thing a 0 1 1;", 3, 21);
        CHECK.fault("thing a 0 1 1; thing a 1 1 1;", 5, 8);
        CHECK.fault("thing a 0 1 1; thing a 1 1 1", 1, 28);
        CHECK.fault("rests 100; pattern p 1 2 3 4 5 6 7 8 9;", 2, 37);
        String all = "thing a 1 1 1;thing b 1 1 1;thing c 1 1 1;thing d 1 1 1;thing e 1 1 1;thing f 1 1 1;thing g 1 1 1;"
                + "pattern h 1;pattern i 1;pattern j 1;pattern k 1;";
        CHECK.fault(all + "pattern l 1;", 0, -1);
        for (char name = 'a'; name <= 'k'; name++) {
            CHECK.fault(all + "pattern " + name + " 1;", 3, all.length() + 8);
        }
    }

    private static void faultChangesNothing() {
        StateJuggler x = CHECK.told("thing a 1 1 0; thing b 2 2 1; pattern p 2; pattern q 3 1; seed 7;");
        x.use(1);
        x.set(4);
        x.beats(1);
        x.tell(3, true);
        x.hold(1);
        int[] counts = new int[18];
        for (int what = 0; what < 18; what++) {
            counts[what] = x.count(what);
        }
        Check.put(x, "thing z 0 1 1;");
        CHECK.due("read of a fault", 5, x.read());
        CHECK.due("place of a fault", 8, x.place());
        for (int what = 0; what < 18; what++) {
            CHECK.due("behind a fault: count " + what, counts[what], x.count(what));
        }
        CHECK.due("weight behind a fault", 1, x.thing(0, 0));
        CHECK.due("undo behind a fault", true, x.undo());
        CHECK.due("restore behind a fault", true, x.restore(1));
        CHECK.due("a good read behind a fault", 0, x.read());
        CHECK.due("place behind a good read", -1, x.place());
        Check.put(x, "x");
        CHECK.due("read of SYNTAX", 1, x.read());
        Check.put(x, "thing a 2 2 2;");
        CHECK.due("a good read behind SYNTAX", 0, x.read());
        CHECK.due("place behind it", -1, x.place());
    }

    /** The class keeps two texts in turn: a third one stands where the first one stood, and has nothing of it. */
    private static void thirdText() {
        StateJuggler x = CHECK.told("thing a 1 1 0; thing b 2 2 0; pattern p 2; pattern q 3; rests 9; seed 42; tires = 50;"
                + "drops = 100; force = 3; pays = 4;");
        x.beats(3);
        // an odd beat: the row of two HEIGHTS below would begin with its second
        x.use(1);
        x.hold(0);
        Check.put(x, "pattern z 9;");
        CHECK.due("second text", 0, x.read());
        CHECK.due("slot 0 holds nothing", 0, x.count(14));
        x.beats(1);
        x.use(0);
        Check.put(x, "thing c 3 8 0; thing a 4 7 9; pattern r 1 3; tires = 5; drops = 7;");
        CHECK.due("third text", 0, x.read());
        int[] counts = {2, 1, 0, 0, 3, 0, 0, 0, 0, 0, 1, 0, 0, 0, 0, 7, 0, 0};
        for (int what = 0; what < counts.length; what++) {
            CHECK.due("third text: count " + what, counts[what], x.count(what));
        }
        CHECK.due("force not told", 8, x.tells(0, 0, 2));
        CHECK.due("pays not told", 0, x.tells(0, 0, 3));
        x.beats(1);
        CHECK.due("caught", 1, x.thing(0, 4));
        x.set(1);
        x.beats(1);
        CHECK.due("tired by two", 10, x.count(3));
        // LOT 100 of 0 and 8 is 6, less than 7; of the first text's 42 it is 90
        x.beats(1);
        CHECK.due("seed 0 if not told", 1, x.count(6));
        x.beats(1);
        CHECK.due("rests 1 if not told", 9, x.count(3));
        for (int i = 0; i < 12; i++) {
            Check.put(x, "thing c 3 8 0; pays=1" + "+0".repeat(180) + "+" + i + ";");
            CHECK.due("a long text again", 0, x.read());
            CHECK.due("a long law again", i + 1, x.tells(0, 0, 3));
        }
    }

    private static void goodTextBeginsAnew() {
        StateJuggler x = CHECK.told("thing a 1 1 0; thing b 2 2 0; pattern p 2; rests 5; seed 3; tires = 9; force = 7;"
                + "pays = 4; drops = 0;");
        x.beats(3);
        x.tell(3, true);
        x.hold(1);
        x.set(7);
        CHECK.due("b is dropped", 2, x.count(5));
        Check.put(x, "thing c 3 8 2;");
        CHECK.due("second text", 0, x.read());
        int[] counts = {1, 0, 0, 0, 1, 0, 0, 0, 0, -2, 3, 0, 0, 0, 0, 3, 0, 0};
        for (int what = 0; what < counts.length; what++) {
            CHECK.due("second text: count " + what, counts[what], x.count(what));
        }
        CHECK.due("undo behind a text", false, x.undo());
        CHECK.due("restore behind a text", false, x.restore(1));
        CHECK.due("tires not told", 0, x.tells(0, 3, 0));
        CHECK.due("drops not told", 0, x.tells(0, 3, 1));
        CHECK.due("force not told", 8, x.tells(0, 3, 2));
        CHECK.due("pays not told", 0, x.tells(0, 3, 3));
        CHECK.due("caught not yet", 0, x.thing(0, 4));
        CHECK.due("no such thing now", -1, x.thing(1, 0));
        CHECK.due("no such pattern now", -1, x.pattern(0, -1));
        StateJuggler y = CHECK.told("tires = 1; thing a 1 1 0; tires = 2; rests 9; rests 3;");
        CHECK.due("the last law", 2, y.tells(0, 1, 0));
    }
}
