import java.util.function.ToLongFunction;

/** The boundaries of section I and of promises 1 to 5: the tape, the TOKENS, the FAULTS. */
final class TextEdges extends Edges {
    private static final String WORDS = "thing pattern tires drops force pays rests seed if then else weight edge height beat"
            + " tired up which caught hand";
    private static final String SEVEN_THINGS = "thing a 1 1 1;thing b 1 1 1;thing c 1 1 1;thing d 1 1 1;thing e 1 1 1;"
            + "thing f 1 1 1;thing g 1 1 1;";
    private static final String FIVE_PATTERNS = "pattern h 1;pattern i 1;pattern j 1;pattern k 1;pattern l 1;";

    TextEdges(Ledger ledger) {
        super(ledger);
    }

    @Override
    void all() {
        lastCall();
        longestText();
        blanks();
        names();
        ints();
        signs();
        longestTokens();
        grammar();
        howManyThings();
        numbersOfThings();
        howManyPatterns();
        numbersOfPatterns();
        lawsToldAndNot();
        restsAndSeed();
        firstFault();
        tokensInAll();
        oneMoreOfASort();
        ninthHeight();
        fifthIf();
        seventhWithin();
        twice();
        wrong();
        faultChangesNothing();
        inPlaceOfTheOneAhead();
        newObject();
        feed();
        back();
        read();
        place();
    }

    private void lastCall() {
        says("An object is used for at most 512 calls after it has been made; what later calls answer is free.");
        StateJuggler x = new StateJuggler();
        // "thing a 1 1 0;" and blanks: two calls
        x.feed(0x7468696e, 0x67206120, 0x31203120, 0x303b2020, 0x20202020);
        x.read();
        for (int call = 3; call < 512; call++) {
            due("beats of call " + call, 60 * (call - 2), x.beats(60));
        }
        due("the 512th: every third of 30540 beats", 10180, x.thing(0, 4));
    }

    private static String blanks(int n) {
        return " ".repeat(n);
    }

    private void longestText() {
        says("A TEXT has 2,000 bytes at most.");
        StateJuggler x = told(blanks(1986) + "thing a 9 0 9;");
        due("the last TELL of 2000 bytes", 9, x.thing(0, 3));
        StateJuggler first = told("thing a 9 0 9;" + blanks(1986));
        due("the first TELL of 2000 bytes", 9, first.thing(0, 3));
        good(blanks(1999));
        good(blanks(2000));
        fault(blanks(1999) + ";", 1, 1999);
        fault(blanks(1995) + "thing", 1, 2000);
        fault(blanks(1994) + "thing ", 1, 2000);
    }

    private void blanks() {
        says("with blanks (9, 10, 13, 32) between or not");
        for (int sign = 0; sign < 256; sign++) {
            boolean blank = sign == 9 || sign == 10 || sign == 13 || sign == 32;
            fault("seed 1;" + (char) sign + "seed 2;", blank ? 0 : 1, blank ? -1 : 7);
            fault((char) sign + "seed 2;", blank ? 0 : 1, blank ? -1 : 0);
            fault("seed 2;" + (char) sign, blank ? 0 : 1, blank ? -1 : 7);
        }
        good("\t\n\r thing\t\n\r a\t\n\r 1\t\n\r 2\t\n\r 3\t\n\r ;\t\n\r ");
        good("thing a1 2 3;pattern p1;tires=if(1)<2then3else(4+edge)*2;seed1;rests1;");
    }

    private void names() {
        says("NAMES (letters a .. z, 8 at most, none of the words in quotes)");
        good("thing a 1 1 1;");
        good("thing z 1 1 1;");
        good("pattern azazazaz 1;");
        // the signs next to a and z, and those of the large letters
        for (char sign : "`{@[AZ_".toCharArray()) {
            fault("thing " + sign + " 1 1 1;", 1, 6);
            fault("thing a" + sign + " 1 1 1;", 1, 7);
        }
        good("thing abcdefg 1 1 1;");
        good("thing abcdefgh 1 1 1;");
        fault("thing abcdefghi 1 1 1;", 1, 6);
        fault("pattern abcdefghi 1;", 1, 8);
        fault("pattern " + "a".repeat(1900) + " 1;", 1, 8);
        for (String word : WORDS.split(" ")) {
            fault("thing " + word + " 1 1 1;", 1, 6);
            fault("pattern " + word + " 1;", 1, 8);
            good("thing " + word + "a 1 1 1;");
            good("pattern " + word.substring(1) + "z 1;");
            boolean otherWord = (" " + WORDS + " ").contains(" " + word.substring(1) + " ");
            fault("pattern " + word.substring(1) + " 1;", otherWord ? 1 : 0, otherWord ? 8 : -1);
            // a word with one letter more than it has is no word either
            fault(word + "a", 1, 0);
        }
        good("thing patternp 1 1 1;");
        fault("thing patternpp 1 1 1;", 1, 6);
        // a word of which the last letter went off the tape is none
        for (String word : "thing pattern tires drops force pays rests seed".split(" ")) {
            StateJuggler x = new StateJuggler();
            Check.put(x, word);
            x.back(1);
            due(word + " less a letter", 1, x.read());
            due("its place", 0, x.place());
            String less = word.substring(0, word.length() - 1);
            fault(blanks(2000 - less.length()) + less, 1, 2000 - less.length());
        }
    }

    private void ints() {
        says("INTS (1 to 4 digits)");
        good("seed 0;");
        good("seed 9;");
        good("seed 9999;");
        good("rests 0099;");
        fault("seed 00000;", 1, 5);
        fault("seed 10000;", 1, 5);
        fault("seed " + "1".repeat(1990) + ";", 1, 5);
        good("tires = 9999 * 9999;");
        fault("tires = 9999 * 99999;", 1, 15);
        // the signs next to 0 and 9
        fault("seed 1/;", 1, 6);
        fault("seed 1:;", 1, 6);
        fault("seed /1;", 1, 5);
        fault("seed :1;", 1, 5);
        fault(blanks(1994) + "seed 1", 1, 2000);
        // digits that went off the tape are not looked at
        StateJuggler x = new StateJuggler();
        Check.put(x, "seed 1234567");
        x.back(6);
        due("seed 1", 1, x.read());
        due("wants a ;", 6, x.place());
    }

    private void signs() {
        says("SIGNS ; = + - * / < ( ) . A longer one, all else, is no TOKEN.");
        for (int sign = 0; sign < 256; sign++) {
            boolean within = "+-*/".indexOf(sign) >= 0;
            boolean more = sign == ';' || sign >= '0' && sign <= '9' || sign == ' ' || sign == 9 || sign == 10 || sign == 13;
            if (!more) {
                fault("tires=1" + (char) sign + "2;", within ? 0 : 1, within ? -1 : 7);
            }
        }
        good("tires=if(1)<2then 1+2-3*4/5 else 1;");
        for (char sign : ">,.!?:&|%^~'\"#$@[]{}\\_".toCharArray()) {
            fault("seed 1; " + sign, 1, 8);
        }
    }

    private void longestTokens() {
        says("TOKENS, the longest that can be");
        fault("thinga 1 2 3;", 1, 0);
        fault("seed 12 3;", 1, 8);
        good("seed 123;");
        fault("tires=edgeup;", 1, 6);
        fault("tires=if1<2then3else4if;", 1, 21);
        good("tires=if1<2then3else4;");
        due("12 is no 1 2", 12, told("thing a 1 2 3;pays=12;").tells(0, 0, 3));
    }

    private void grammar() {
        says("text: {TELL}.");
        good("");
        good("seed 1;");
        fault(";", 1, 0);
        fault("seed 1;;", 1, 7);
        says("TELL: 'thing' NAME INT INT INT ';'");
        fault("thing a 1 1;", 1, 11);
        good("thing a 1 1 1;");
        fault("thing a 1 1 1 1;", 1, 14);
        fault("thing a b 1 1 1;", 1, 8);
        fault("thing 1 1 1;", 1, 6);
        says("'pattern' NAME INT {INT} ';'");
        fault("pattern p;", 1, 9);
        good("pattern p 1;");
        fault("pattern 1;", 1, 8);
        says("'rests' INT ';' | 'seed' INT ';'.");
        fault("rests;", 1, 5);
        fault("rests 1 1;", 1, 8);
        fault("seed;", 1, 4);
        fault("seed 1 1;", 1, 7);
        says("('tires' | 'drops' | 'force' | 'pays') LAW ';'");
        says("LAW: '=' {'if' E '<' E 'then' E 'else'} E. E: PART {('+' | '-') PART}. PART: UNIT {('*' | '/') UNIT}.");
        for (String law : "tires drops force pays".split(" ")) {
            int at = law.length();
            good(law + "=1;");
            fault(law + "=;", 1, at + 1);
            fault(law + " 1;", 1, at + 1);
            fault(law + "=1<2;", 1, at + 2);
            fault(law + "=1 1;", 1, at + 3);
            fault(law + "=1+;", 1, at + 3);
            fault(law + "=1*;", 1, at + 3);
            fault(law + "=-1;", 1, at + 1);
            fault(law + "=1+-1;", 1, at + 3);
            fault(law + "=if 1 then 2 else 3;", 1, at + 6);
            fault(law + "=if 1<2<3 then 2 else 3;", 1, at + 7);
            fault(law + "=if 1<2 then 3;", 1, at + 14);
            fault(law + "=if 1<2 else 3;", 1, at + 8);
            fault(law + "=1 else 2;", 1, at + 3);
        }
        says("UNIT: INT | VAR | '(' E ')'. VAR: 'weight' | 'edge' | 'height' | 'beat' | 'tired' | 'up' | 'which' | 'caught' |"
                + " 'hand'.");
        fault("pays=();", 1, 6);
        fault("pays=(1;", 1, 7);
        fault("pays=1);", 1, 6);
        fault("pays=(if 1<2 then 1 else 1);", 1, 6);
        for (String word : WORDS.split(" ")) {
            boolean variable = WORDS.indexOf(word) >= WORDS.indexOf("weight");
            if (!word.equals("if")) {
                fault("pays=" + word + ";", variable ? 0 : 1, variable ? -1 : 5);
            }
        }
        fault("pays=a;", 1, 5);
    }

    private void howManyThings() {
        says("THINGS, 7 at most");
        due("none", 0, told("").count(0));
        StateJuggler x = told(SEVEN_THINGS);
        due("seven", 7, x.count(0));
        due("the seventh", 1, x.thing(6, 0));
        fault(SEVEN_THINGS + "thing h 1 1 1;", 2, SEVEN_THINGS.length());
    }

    private void numbersOfThings() {
        says("(a NAME, WEIGHT 1 .. 9, EDGE 0 .. 9, in how many beats it lands 0 .. 9)");
        for (int number : new int[] {0, 1, 2, 8, 9, 10, 11, 99, 100, 9999}) {
            boolean one = number >= 1 && number <= 9;
            boolean nought = number <= 9;
            fault("thing a " + number + " 1 1;", one ? 0 : 5, one ? -1 : 8);
            fault("thing a 1 " + number + " 1;", nought ? 0 : 5, nought ? -1 : 10);
            fault("thing a 1 1 " + number + ";", nought ? 0 : 5, nought ? -1 : 12);
        }
        StateJuggler x = told("thing a 1 0 0;thing b 9 9 9;thing c 0001 0009 0000;");
        int[] want = {1, 0, 0, 9, 9, 9, 1, 9, 0};
        for (int i = 0; i < 9; i++) {
            due("number " + i, want[i], x.thing(i / 3, i % 3 == 2 ? 3 : i % 3));
        }
        says("numbered each from 0 on as they stand");
        StateJuggler y = told("thing z 1 1 1;pattern y 1;thing a 2 1 1;pattern b 2;thing m 3 1 1;");
        due("the first thing", 1, y.thing(0, 0));
        due("the last thing", 3, y.thing(2, 0));
        due("the first pattern", 1, y.pattern(0, 0));
        due("the last pattern", 2, y.pattern(1, 0));
    }

    private void howManyPatterns() {
        says("PATTERNS, 5 at most");
        StateJuggler x = told(FIVE_PATTERNS);
        due("five", 5, x.count(1));
        due("the fifth", 1, x.pattern(4, 0));
        fault(FIVE_PATTERNS + "pattern m 1;", 2, FIVE_PATTERNS.length());
        good(SEVEN_THINGS + FIVE_PATTERNS);
        good(FIVE_PATTERNS + SEVEN_THINGS);
        fault(SEVEN_THINGS + FIVE_PATTERNS + "thing m 1 1 1;", 2, SEVEN_THINGS.length() + FIVE_PATTERNS.length());
    }

    private void numbersOfPatterns() {
        says("(a NAME, 1 to 8 HEIGHTS 0 .. 9)");
        fault("pattern p ;", 1, 10);
        due("one", 1, told("pattern p 0;").pattern(0, -1));
        StateJuggler x = told("pattern p 9 8 7 6 5 4 3 0;");
        due("eight", 8, x.pattern(0, -1));
        due("the first", 9, x.pattern(0, 0));
        due("the eighth", 0, x.pattern(0, 7));
        fault("pattern p 9 8 7 6 5 4 3 0 1;", 2, 26);
        for (int number : new int[] {0, 1, 8, 9, 10, 11, 99, 9999}) {
            boolean height = number <= 9;
            fault("pattern p " + number + " 1;", height ? 0 : 5, height ? -1 : 10);
            fault("pattern p 1 1 1 1 1 1 1 " + number + ";", height ? 0 : 5, height ? -1 : 24);
        }
    }

    private void lawsToldAndNot() {
        says("LAWS: TIRES (0), DROPS (0), FORCE (edge), PAYS (0), if not told; the last one.");
        StateJuggler x = told("thing a 9 7 0;");
        int[] untold = {0, 0, 7, 0};
        StateJuggler y = told("thing a 9 7 0;tires=1;drops=2;force=3;pays=4;tires=5;drops=6;force=8;pays=9;");
        int[] last = {5, 6, 8, 9};
        StateJuggler z = told("thing a 9 7 0;tires=1;drops=2;force=3;pays=4;");
        for (int law = 0; law < 4; law++) {
            due("law " + law + " not told", untold[law], x.tells(0, 3, law));
            due("law " + law + " told twice", last[law], y.tells(0, 3, law));
            due("law " + law + " told once", law + 1, z.tells(0, 3, law));
        }
        // texts in turn: what is not told is not as another text told it
        StateJuggler turns = new StateJuggler();
        for (int turn = 0; turn < 4; turn++) {
            Check.put(turns, "seed 7;rests 9;pattern p 1;thing a 9 7 0;thing b 9 7 9;tires=11;drops=12;force=13;pays=14;");
            due("all told", 0, turns.read());
            for (int law = 0; law < 4; law++) {
                due("law " + law + " told", 11 + law, turns.tells(0, 3, law));
            }
            for (int less = 0; less <= turn; less++) {
                Check.put(turns, "thing a 9 7 0;");
                due("none told", 0, turns.read());
                due("one thing", 1, turns.count(0));
                due("no pattern", 0, turns.count(1));
                for (int law = 0; law < 4; law++) {
                    due("law " + law + " not told again", untold[law], turns.tells(0, 3, law));
                }
            }
        }
    }

    private void restsAndSeed() {
        says("RESTS 0 .. 99: by how much he is less tired in a beat with nothing in hand (1)");
        int[] rests = {0, 1, 2, 98, 99};
        for (int rest : rests) {
            // tired by 99 in the first beat; in the second nothing is in hand
            StateJuggler x = told("thing a 1 1 0;pattern p 9;tires=99;rests " + rest + ";");
            x.beats(2);
            due("rests " + rest, 99 - rest, x.count(3));
        }
        fault("rests 100;", 5, 6);
        fault("rests 9999;", 5, 6);
        StateJuggler x = told("thing a 1 1 0;pattern p 9;tires=99;");
        x.beats(2);
        due("rests not told", 98, x.count(3));
        StateJuggler last = told("rests 50;thing a 1 1 0;pattern p 9;tires=99;rests 7;");
        last.beats(2);
        due("the last rests", 92, last.count(3));
        says("SEED 0 .. 9999 (0): the last one.");
        // LOT 100 of 0 and 0 is 47, of 9999 it is 59, of 42 it is 0
        dropsAt("", 47);
        dropsAt("seed 0;", 47);
        dropsAt("seed 0000;", 47);
        dropsAt("seed 9999;", 59);
        dropsAt("seed 9999;seed 42;", 0);
        dropsAt("seed 42;seed 9999;", 59);
        fault("seed 10000;", 1, 5);
        // texts in turn: not told is 0, whatever other texts told
        StateJuggler turns = new StateJuggler();
        for (String seed : new String[] {"seed 42;", "seed 42;", "", "", "seed 42;"}) {
            Check.put(turns, seed + "thing a 1 1 0;drops=47;");
            due("read of " + seed, 0, turns.read());
            turns.beats(1);
            due("dropped by " + seed, seed.isEmpty() ? 0 : 1, turns.count(6));
        }
    }

    /** The least DROPS by which the THING of beat 0 is DROPPED is one more than the LOT. */
    private void dropsAt(String seed, int lot) {
        StateJuggler kept = told(seed + "thing a 1 1 0;drops=" + lot + ";");
        kept.beats(1);
        due(seed + " drops " + lot, 0, kept.count(6));
        StateJuggler gone = told(seed + "thing a 1 1 0;drops=" + (lot + 1) + ";");
        gone.beats(1);
        due(seed + " drops " + (lot + 1), 1, gone.count(6));
    }

    private void firstFault() {
        says("FAULTS of a text, the first by its place (a byte; the text's end: its length), of one place the least:"
                + " 1 SYNTAX: a TOKEN, or what is none, with which no text goes on. 2 ROOM:");
        fault("pattern p 1 1 1 1 1 1 1 1 1 x", 2, 26);
        fault("seed x; pattern p 1 1 1 1 1 1 1 1 1;", 1, 5);
        fault("thing", 1, 5);
        fault("thing \n", 1, 7);
        fault("thing a 1 1 1", 1, 13);
        fault("A", 1, 0);
        fault("seed 1;A", 1, 7);
        // a TELL that begins where another one should go on, and has a FAULT too
        fault("thing seed x", 1, 6);
        fault("thing a seed x", 1, 8);
        fault("thing a 1 seed x", 1, 10);
        fault("thing a 1 1 seed x", 1, 12);
        fault("thing a 1 1 1 seed x", 1, 14);
        fault("pattern seed x", 1, 8);
        fault("pattern p seed x", 1, 10);
        fault("pattern p 1 seed x", 1, 12);
        fault("tires seed x", 1, 6);
        fault("tires=seed x", 1, 6);
        fault("tires=1 seed x", 1, 8);
        fault("tires=if seed x", 1, 9);
        fault("tires=if 1<1 then 1 else seed x", 1, 25);
        fault("rests seed x", 1, 6);
        fault("seed 1 seed x", 1, 7);
        // one place, two FAULTS: the 401st TOKEN with which no text goes on
        fault(law(199) + ";)", 1, law(199).length() + 1);
        fault(law(199) + ";A", 1, law(199).length() + 1);
        fault(law(199) + "))", 1, law(199).length());
        // a 401st TOKEN, of what is none ahead of it
        fault("A" + law(200), 1, 0);
    }

    /** A LAW of 2 * n + 1 TOKENS, without the ; of its end. */
    private static String law(int n) {
        return "pays=1" + "+0".repeat(n - 1);
    }

    private void tokensInAll() {
        says("a 401st TOKEN;");
        // six of the THING, 394 of the LAW, all of which is worked out
        String full = "thing a 1 1 1;" + law(195) + "+8;";
        due("400 TOKENS", 9, told(full).tells(0, 0, 3));
        fault(full + "seed 1;", 2, full.length());
        StateJuggler again = new StateJuggler();
        for (int i = 0; i < 8; i++) {
            Check.put(again, full);
            due("400 TOKENS again", 0, again.read());
            due("all of them", 9, again.tells(0, 0, 3));
        }
        // 398, and three of a SEED
        String some = "thing a 1 1 1;" + law(195) + ";";
        due("398 TOKENS", 1, told(some).tells(0, 0, 3));
        fault(some + "seed 1;", 2, some.length() + 6);
        String even = "thing a 1 1 1;" + law(194) + ";";
        due("396 and 3 TOKENS", 1, told(even + "seed 1;").count(0));
        fault(even + "seed 1;seed 1;", 2, even.length() + 12);
        fault(even + "seed 1;rests 1;seed", 2, even.length() + 13);
        // 400 and the end; 401; 402
        good(law(199) + ";");
        fault(law(200), 2, law(200).length() - 1);
        fault(law(200) + ";", 2, law(200).length() - 1);
        String odd = "seed 1;" + law(198);
        fault(odd + ";", 2, odd.length());
        fault(odd, 1, odd.length());
        good("seed 1;" + law(197) + ";");
        fault(law(199) + ";thing", 2, law(199).length() + 1);
        for (int i = 1; i <= 14; i++) {
            // the i-th TOKEN of these is the 401st
            String[] tokens = "thing a 1 1 1 ; pattern p 1 1 ; rests 100 ;".split(" ");
            int ahead = 401 - i;
            String before = (ahead % 2 == 0 ? "" : "seed 1;") + law((ahead - (ahead % 2 == 0 ? 2 : 5)) / 2) + "; ";
            int place = before.length();
            for (int j = 1; j < i; j++) {
                place += tokens[j - 1].length() + 1;
            }
            fault(before + String.join(" ", tokens), 2, place);
        }
        // what stands behind the 401st is not looked at
        fault(law(199) + "; seed A", 2, law(199).length() + 2);
        // TOKENS of one byte each from the second on
        fault("pays=" + "(1+".repeat(3) + "1+".repeat(990), 2, 403);
    }

    private void oneMoreOfASort() {
        says("one more of a sort than told (at its first TOKEN);");
        int at = SEVEN_THINGS.length() + 1;
        fault(SEVEN_THINGS + " thing h 1 1 1;", 2, at);
        fault(SEVEN_THINGS + " thing", 2, at);
        fault(SEVEN_THINGS + " thing A", 2, at);
        fault(SEVEN_THINGS + FIVE_PATTERNS + "thing", 2, at - 1 + FIVE_PATTERNS.length());
        fault(FIVE_PATTERNS + "pattern", 2, FIVE_PATTERNS.length());
        fault(FIVE_PATTERNS + SEVEN_THINGS + "pattern;", 2, at - 1 + FIVE_PATTERNS.length());
        // LAWS, RESTS, SEED can be told as often as there is room for TOKENS
        good(SEVEN_THINGS + FIVE_PATTERNS + "tires=1;".repeat(10) + "drops=1;".repeat(10) + "force=1;".repeat(10)
                + "pays=1;".repeat(10) + "rests 1;".repeat(20) + "seed 1;".repeat(20));
    }

    private void ninthHeight() {
        says("a 9th HEIGHT of a PATTERN (at it);");
        good("pattern p 1 1 1 1 1 1 1 1;");
        fault("pattern p 1 1 1 1 1 1 1 1 1;", 2, 26);
        fault("pattern p 1 1 1 1 1 1 1 1 9999;", 2, 26);
        fault("pattern p 1 1 1 1 1 1 1 1 99999;", 1, 26);
        fault("pattern p 1 1 1 1 1 1 1 1", 1, 25);
        fault("pattern p 1 1 1 1 1 1 1 1 x;", 1, 26);
        good("pattern p 1 1 1 1 1 1 1 1;pattern q 1 1 1 1 1 1 1 1;");
        fault("pattern q 1;pattern p 1 1 1 1 1 1 1 1 1;", 2, 38);
    }

    private void fifthIf() {
        says("a 5th if of a LAW (at it);");
        String one = "if 2<1 then 1 else ";
        for (String law : "tires drops force pays".split(" ")) {
            int at = law.length() + 1;
            good(law + "=" + one.repeat(3) + "1;");
            good(law + "=" + one.repeat(4) + "1;");
            fault(law + "=" + one.repeat(5) + "1;", 2, at + 4 * one.length());
            fault(law + "=" + one.repeat(4) + "if", 2, at + 4 * one.length());
        }
        good("tires=" + one.repeat(4) + "1;tires=" + one.repeat(4) + "1;drops=" + one.repeat(4) + "1;");
        StateJuggler x = told("thing a 1 1 1;pays=" + one.repeat(3) + "if 1<2 then 8 else 9;");
        due("the fourth if", 8, x.tells(0, 0, 3));
        due("behind the fourth if", 9, told("thing a 1 1 1;pays=" + one.repeat(4) + "9;").tells(0, 0, 3));
    }

    private void seventhWithin() {
        says("a 7th ( within one another (at it).");
        due("six", 7, told("thing a 1 1 1;pays=((((((7))))));").tells(0, 0, 3));
        fault("pays=(((((((7)))))));", 2, 11);
        fault("pays=(((((((", 2, 11);
        fault("pays=(((((()", 1, 11);
        // those that are closed again do not count
        due("six times two", 9, told("thing a 1 1 1;pays=((((((4))))))+((((((5))))));").tells(0, 0, 3));
        due("one by one", 8, told("thing a 1 1 1;pays=(1)+(1)+(1)+(1)+(1)+(1)+(1)+(1);").tells(0, 0, 3));
        due("within", 14, told("thing a 1 1 1;pays=(((((1+(2))+(3))+(4)))+(4));").tells(0, 0, 3));
        fault("pays=((((((4))))))+(((((((5)))))));", 2, 25);
        fault("pays=((((((4)+((5)))))));", 2, 15);
        // each E of an if begins anew
        String six = "((((((1))))))";
        String seven = "(((((((1)))))))";
        good("pays=if " + six + "<" + six + " then " + six + " else " + six + ";");
        fault("pays=if " + seven + "<1 then 1 else 1;", 2, 14);
        fault("pays=if 1<" + seven + " then 1 else 1;", 2, 16);
        fault("pays=if 1<1 then " + seven + " else 1;", 2, 23);
        fault("pays=if 1<1 then 1 else " + seven + ";", 2, 30);
    }

    private void twice() {
        says("If there is none, likewise: 3 TWICE: a NAME told already (of THINGS and PATTERNS together).");
        fault("thing a 1 1 1;thing a 1 1 1;", 3, 20);
        fault("pattern a 1;pattern a 1;", 3, 20);
        fault("thing a 1 1 1;pattern a 1;", 3, 22);
        fault("pattern a 1;thing a 1 1 1;", 3, 18);
        // the first of two by its place
        fault("thing a 1 1 1;thing a 1 1 1;thing a 1 1 1;", 3, 20);
        // alike but for the last letter, the first, or one more
        good("thing abcdefgh 1 1 1;thing abcdefgi 1 1 1;thing bbcdefgh 1 1 1;thing abcdefg 1 1 1;");
        for (char letter = 'a'; letter <= 'z'; letter++) {
            StringBuilder text = new StringBuilder();
            for (int letters = 1; letters <= 7; letters++) {
                text.append("thing ").append(("" + letter).repeat(letters)).append(" 1 1 1;");
            }
            good(text.append("pattern ").append(("" + letter).repeat(8)).append(" 1;").toString());
            fault("pattern " + letter + " 1;thing " + letter + " 1 1 1;", 3, 18);
        }
        fault("thing zzzzzzzz 1 1 1;pattern zzzzzzzz 1;", 3, 29);
        // the last of twelve is held against all of them
        for (char name = 'a'; name <= 'k'; name++) {
            fault(SEVEN_THINGS + FIVE_PATTERNS.replace("pattern l", "pattern " + name), 3,
                    SEVEN_THINGS.length() + FIVE_PATTERNS.length() - 4);
        }
        // SYNTAX or ROOM anywhere come ahead of it
        fault("thing a 1 1 1;thing a 1 1 1;x", 1, 28);
        fault("thing a 1 1 1;thing a 1 1 1;pays=(((((((1)))))));", 2, 39);
        fault(SEVEN_THINGS + "thing a 1 1 1;", 2, SEVEN_THINGS.length());
        fault("thing a 1 1 1;thing a 1 1 1;" + law(200) + ";", 2, 28 + law(194).length() + 1 - 2);
        // a NAME that was told in a text ahead, or in one with a FAULT, is not told
        StateJuggler x = told("thing a 1 1 1;");
        Check.put(x, "pattern a 1;pattern b 1;x");
        due("SYNTAX behind names", 1, x.read());
        Check.put(x, "pattern a 1;pattern b 1;");
        due("names of another text", 0, x.read());
    }

    private void wrong() {
        says("5 WRONG (at the INT): a number not as told above.");
        fault("thing a 0 1 1;", 5, 8);
        fault("thing a 0 10 10;", 5, 8);
        fault("thing a 1 10 10;", 5, 10);
        fault("thing a 1 1 10;thing a 1 1 1;", 5, 12);
        fault("thing a 1 1 1;thing a 0 1 1;", 3, 20);
        fault("thing a 1 1 1;thing b 0 1 1;thing a 1 1 1;", 5, 22);
        fault("pattern p 1 10 1 10;", 5, 12);
        fault("rests 100;rests 1;", 5, 6);
        // SYNTAX or ROOM anywhere come ahead of it
        fault("rests 100;x", 1, 10);
        fault("rests 100", 1, 9);
        fault("rests 100;pattern p 1 1 1 1 1 1 1 1 1;", 2, 36);
        fault("pattern p 10 1 1 1 1 1 1 1 1;", 2, 27);
        // numbers of LAWS are as they are
        good("tires=0+9999;drops=if 0<9999 then 9999 else 0;force=0/9999;pays=9999;");
    }

    private void faultChangesNothing() {
        says("A text with a FAULT changes nothing but the tape;");
        String[] texts = {"x", "thing a 1 1 1;x", SEVEN_THINGS + "thing", "seed 9;rests 9;tires=9;pattern a 1;pattern a 1;",
            "pays=9;force=9;drops=99;pattern z 1;thing y 0 1 1;"};
        int[] faults = {1, 1, 2, 3, 5};
        for (int i = 0; i < texts.length; i++) {
            String text = texts[i];
            ToLongFunction<StateJuggler> reading = x -> {
                x.back(x.count(11));
                Check.put(x, text);
                return x.read();
            };
            // the place and the tape are all that differs
            StateJuggler seen = busy();
            due("read of " + text, faults[i], reading.applyAsLong(seen));
            due("tape behind " + text, 0, seen.count(11));
            StateJuggler other = busy();
            other.back(13);
            String as = "place " + seen.place() + Sight.of(other).substring("place -1".length());
            due("all that is seen behind " + text, true, as.equals(Sight.of(seen)));
            StateJuggler undone = busy();
            reading.applyAsLong(undone);
            due("undone behind " + text, true, Sight.undone(busy()).equals(Sight.undone(undone)));
            StateJuggler held = busy();
            reading.applyAsLong(held);
            due("held behind " + text, true, Sight.held(busy()).equals(Sight.held(held)));
        }
    }

    private void inPlaceOfTheOneAhead() {
        says("else it is in place of the one ahead: beat 0, all THINGS UP, to land as told, not tired, PATTERN 0 in use"
                + " (none: HEIGHT 3 always); nothing can be undone, nothing is TOLD, SLOTS hold nothing.");
        String text = "thing y 1 2 9;thing z 3 4 0;pattern p 7 6;pattern q 5;";
        StateJuggler x = busy();
        x.hold(1);
        due("three slots", 3, x.count(14));
        due("forty things done", 40, x.count(12));
        x.back(13);
        Check.put(x, text);
        due("read", 0, x.read());
        due("as a new object that reads it", true, Sight.of(told(text)).equals(Sight.of(x)));
        for (int slot = 0; slot < 3; slot++) {
            due("slot " + slot, false, x.restore(slot));
        }
        due("undo", false, x.undo());
        due("forget", 0, x.forget());
        due("height of beat 0", 7, x.count(10));
        StateJuggler none = busy();
        none.back(13);
        due("read of nothing", 0, none.read());
        due("as a new object", true, Sight.of(new StateJuggler()).equals(Sight.of(none)));
        due("no pattern", -2, none.count(9));
        StateJuggler always = told("thing a 1 1 0;");
        for (int beat = 0; beat < 12; beat++) {
            due("height at " + beat, 3, always.count(10));
            due("lands at " + beat, (3 - beat % 3) % 3, always.thing(0, 3));
            always.beats(1);
        }
    }

    private void newObject() {
        says("`StateJuggler()`: No THINGS, no PATTERNS.");
        StateJuggler x = new StateJuggler();
        int[] counts = {0, 0, 0, 0, 0, 0, 0, 0, 0, -2, 3, 0, 0, 0, 0, 0, 0, 0};
        for (int what = 0; what < counts.length; what++) {
            due("new: count " + what, counts[what], x.count(what));
        }
        due("new: thing", -1, x.thing(0, 0));
        due("new: pattern", -1, x.pattern(0, -1));
        due("new: tells", -100, x.tells(0, 0, 2));
        due("new: throwIn", false, x.throwIn(0, 0));
        due("new: use", false, x.use(0));
        due("new: as if nothing had been read", true, Sight.of(told("")).equals(Sight.of(x)));
    }

    private static int feedBlanks(StateJuggler x) {
        return x.feed(0x20202020, 0x20202020, 0x20202020, 0x20202020, 0x20202020);
    }

    private StateJuggler busyWithTape(int bytes) {
        StateJuggler x = busy();
        x.back(13);
        for (int i = 0; i < (bytes + 19) / 20; i++) {
            feedBlanks(x);
        }
        x.back(x.count(11) - bytes);
        return x;
    }

    private void feed() {
        says("`int feed(int a, int b, int c, int d, int e)`: Twenty bytes, the highest of a first, come behind the tape:"
                + " how many it has. NONE, and nothing comes, if it would have more than 2,000.");
        StateJuggler x = new StateJuggler();
        for (int i = 1; i <= 100; i++) {
            due("feed " + i, 20 * i, feedBlanks(x));
        }
        due("feed of 2001 to 2020", -1, feedBlanks(x));
        due("the tape is full", 2000, x.count(11));
        for (int bytes : new int[] {1981, 1982, 1999, 2000}) {
            nothingHappens("feed behind " + bytes, () -> busyWithTape(bytes), TextEdges::feedBlanks, -1);
            StateJuggler full = busyWithTape(bytes);
            full.feed(0x41414141, 0x41414141, 0x41414141, 0x41414141, 0x41414141);
            due("nothing came behind " + bytes, 0, full.read());
        }
        due("feed behind 1980", 2000, feedBlanks(busyWithTape(1980)));
        due("feed behind 1979", 1999, feedBlanks(busyWithTape(1979)));
        // each of the twenty bytes by itself, with all of its bits
        for (int i = 0; i < 20; i++) {
            for (int sign : new int[] {0, 127, 128, 255}) {
                int[] words = new int[5];
                for (int j = 0; j < 20; j++) {
                    words[j / 4] = words[j / 4] << 8 | (i == j ? sign : 32);
                }
                StateJuggler y = new StateJuggler();
                y.feed(words[0], words[1], words[2], words[3], words[4]);
                due("a byte " + sign, 1, y.read());
                due("at " + i, i, y.place());
            }
        }
    }

    private void back() {
        says("`int back(int n)`: The last n bytes of the tape go: how many it has. NONE, and nothing goes, if it has not so"
                + " many, or n is below 0.");
        StateJuggler x = new StateJuggler();
        due("0 of an empty tape", 0, x.back(0));
        due("1 of an empty tape", -1, x.back(1));
        feedBlanks(x);
        due("0", 20, x.back(0));
        due("1", 19, x.back(1));
        due("20 of 19", -1, x.back(20));
        due("19 of 19", 0, x.back(19));
        due("1 of none", -1, x.back(1));
        for (int n : new int[] {-1, -13, Integer.MIN_VALUE, 14, Integer.MAX_VALUE}) {
            nothingHappens("back " + n + " of 13", this::busy, y -> y.back(n), -1);
        }
        due("13 of 13", 0, busy().back(13));
        // the last ones go, the first ones stay
        StateJuggler y = new StateJuggler();
        Check.put(y, "thing a 1 1 7;x");
        due("the x goes", 14, y.back(1));
        due("the rest is good", 0, y.read());
        due("and is there", 7, y.thing(0, 3));
    }

    private void read() {
        says("`int read()`: The tape, which is empty then, is read: 0, or the number of its FAULT.");
        String[] texts = {"", "seed 1;", "seed", "pattern p 1 1 1 1 1 1 1 1 1;", "pattern p 1;pattern p 1;", "rests 100;"};
        int[] faults = {0, 0, 1, 2, 3, 5};
        StateJuggler x = new StateJuggler();
        for (int i = 0; i < texts.length; i++) {
            Check.put(x, texts[i]);
            due("read of " + texts[i], faults[i], x.read());
            due("tape behind " + texts[i], 0, x.count(11));
        }
        due("read of nothing left", 0, x.read());
    }

    private void place() {
        says("`int place()`: The byte of the latest read()'s FAULT; NONE without.");
        StateJuggler x = new StateJuggler();
        due("ahead of any read", -1, x.place());
        Check.put(x, "x");
        due("ahead of the first read", -1, x.place());
        x.read();
        due("at the first byte", 0, x.place());
        Check.put(x, "seed 1;");
        due("not read yet", 0, x.place());
        x.read();
        due("behind a good one", -1, x.place());
        Check.put(x, blanks(1995) + "thing");
        x.read();
        due("at the end of 2000", 2000, x.place());
        x.read();
        due("behind an empty one", -1, x.place());
    }
}
