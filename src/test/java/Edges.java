import java.util.function.Supplier;
import java.util.function.ToLongFunction;

/** What the tests of the document's boundaries share. */
abstract class Edges {
    private final Ledger ledger;

    Edges(Ledger ledger) {
        this.ledger = ledger;
    }

    abstract void all();

    final void says(String words) {
        ledger.says(words);
    }

    final void due(String call, long want, long got) {
        ledger.check.due(call, want, got);
    }

    final void due(String call, boolean want, boolean got) {
        ledger.check.due(call, want, got);
    }

    final StateJuggler told(String text) {
        return ledger.check.told(text);
    }

    final void good(String text) {
        ledger.check.fault(text, 0, -1);
    }

    final void fault(String text, int fault, int place) {
        ledger.check.fault(text, fault, place);
    }

    /** A call that is answered so, and behind which all is as it would be without it: seen, undone, held. */
    final void nothingHappens(String call, Supplier<StateJuggler> make, ToLongFunction<StateJuggler> calling, long want) {
        StateJuggler seen = make.get();
        due(call, want, calling.applyAsLong(seen));
        due(call + ": all that is seen is as it was", true, Sight.of(make.get()).equals(Sight.of(seen)));
        StateJuggler undone = make.get();
        calling.applyAsLong(undone);
        due(call + ": all can be undone as it was", true, Sight.undone(make.get()).equals(Sight.undone(undone)));
        StateJuggler held = make.get();
        calling.applyAsLong(held);
        due(call + ": all is held as it was", true, Sight.held(make.get()).equals(Sight.held(held)));
    }

    static long asLong(boolean answer) {
        return answer ? 1 : 0;
    }

    /** An object with all that can be changed: 40 things done, SLOTS 0 and 2 held, 5 TOLD, 13 bytes on the tape. */
    final StateJuggler busy() {
        StateJuggler x = told("thing a 2 3 0;thing b 4 5 1;thing c 1 1 2;thing d 9 0 3;thing e 5 9 4;thing f 3 2 2;"
                + "thing g 6 6 9;pattern p 5;pattern q 4 6;pattern r 4 4 1;pattern s 7 5 3 1;pattern t 3;"
                + "tires=height;drops=beat/4;force=edge-weight;pays=edge;rests 2;seed 5;");
        x.hold(0);
        for (int i = 0; i < 12; i++) {
            x.use(i % 5);
            x.set(i % 9 + 1);
            x.beats(i % 3 + 1);
            // those that were dropped come up again, but for f
            x.throwIn(i % 5, 5);
        }
        x.set(0);
        x.beats(1);
        x.hold(2);
        x.throwIn(6, 9);
        x.use(1);
        x.set(4);
        x.tell(0, false);
        x.tell(7, false);
        x.tell(40, true);
        x.tell(3, false);
        x.tell(0, true);
        x.feed(0x72657374, 0x7320313b, 0x20202020, 0x20202020, 0x20202020);
        x.back(7);
        return x;
    }
}
