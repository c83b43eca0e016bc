/** All that can be seen of an object, as a text: two objects are alike if their sights are. */
final class Sight {
    private Sight() {
    }

    /** Some 320 calls, none of which changes anything. */
    static String of(StateJuggler x) {
        StringBuilder all = new StringBuilder("place " + x.place());
        for (int what = 0; what < 18; what++) {
            all.append(" count ").append(what).append(' ').append(x.count(what));
        }
        for (int thing = 0; thing < x.count(0); thing++) {
            all.append(" thing ").append(thing);
            for (int what = 0; what < 5; what++) {
                all.append(' ').append(x.thing(thing, what));
            }
            for (int law = 0; law < 4; law++) {
                all.append(' ').append(x.tells(thing, 5, law));
            }
            all.append(" room ").append(x.room(thing)).append(" order ").append(x.order(thing));
        }
        for (int pattern = 0; pattern < x.count(1); pattern++) {
            all.append(" pattern ").append(pattern).append(" into ").append(x.into(pattern, -1));
            for (int i = -1; i < 8; i++) {
                all.append(' ').append(x.pattern(pattern, i));
            }
        }
        all.append(" lands ").append(x.lands()).append(" clash ").append(x.clash()).append(" gap ").append(x.gap());
        all.append(" handover ").append(x.handover()).append(" down ").append(x.down()).append(" limit ").append(x.limit(500));
        all.append(" load ").append(x.load(60)).append(" rule ").append(x.rule(60)).append(" light ").append(x.light(9, 1));
        all.append(" year ").append(x.year(60, 20)).append(" then");
        for (int what = 0; what < 4; what++) {
            all.append(' ').append(x.then(60, what));
        }
        all.append(" in hand");
        for (int n = 0; n <= 40; n++) {
            all.append(' ').append(x.inHand(n));
        }
        all.append(" known");
        for (int k = 0; k <= x.count(13); k++) {
            all.append(' ').append(x.glitters(k, 1)).append(' ').append(x.watch(k));
        }
        return all.toString();
    }

    /** What comes to light as one thing after the other is undone. */
    static String undone(StateJuggler x) {
        StringBuilder all = new StringBuilder();
        for (int i = 0; i < 41; i++) {
            all.append(x.undo()).append(' ').append(standing(x)).append('\n');
        }
        return all.toString();
    }

    /** What the SLOTS hold. */
    static String held(StateJuggler x) {
        StringBuilder all = new StringBuilder();
        for (int slot = 0; slot < 3; slot++) {
            all.append(x.restore(slot)).append(' ').append(standing(x)).append('\n');
        }
        return all.toString();
    }

    private static String standing(StateJuggler x) {
        StringBuilder all = new StringBuilder();
        for (int what : new int[] {2, 3, 4, 5, 6, 7, 8, 9, 10}) {
            all.append(x.count(what)).append(' ');
        }
        return all.append(x.lands()).toString();
    }
}
