import java.util.ArrayList;
import java.util.IdentityHashMap;
import java.util.List;
import java.util.Map;

/** States to stand at, and all that is seen of them: for the tests of boundary cases. */
final class Edges {
    static final int BAD = -1;
    static final int NOT = -2;
    static final int LIMIT = -3;
    static final int NONE = -4;
    static final int MIN = Integer.MIN_VALUE;
    static final int MAX = Integer.MAX_VALUE;

    private static final int HISTORY = 4;

    /** Calls that bring a new object to a state. */
    interface State {
        void reach(NoonWells x);
    }

    /** A call whose answer is looked at. */
    interface Call {
        int on(NoonWells x);
    }

    /** A new object. */
    static final State NEW = x -> { };

    /** Three wells, two droughts, two requests that wait, a full history and a short text. */
    static final State FEW = x -> {
        x.well(-1, 100, 10, 30);
        x.well(0, 40, 5, 20);
        x.well(0, 30, 4, 2);
        x.drought(1, 2, 3);
        x.drought(0, 12, 60000);
        x.set(0, 8);
        x.tick(9);
        x.request(2, 500);
        x.request(1, 3);
        x.draw(0, 7);
        typed(x, "t1;d0,1;");
    };

    /** Twelve wells, twenty droughts, eight requests that wait and a text of sixty characters. */
    static final State FULL = x -> {
        for (int i = 0; i < 12; i++) {
            x.well(i == 0 ? -1 : (i - 1) / 2, 20 + i, 3, 4);
        }
        x.set(0, 8);
        for (int i = 0; i < 20; i++) {
            x.drought(i % 12, 3 + i, 30 + i);
        }
        x.tick(7);
        for (int i = 0; i < 7; i++) {
            x.request(i, 900 + i);
        }
        x.draw(3, 2);
        x.tick(1);
        x.set(1, 1);
        x.request(11, 1);
        for (int i = 0; i < 20; i++) {
            typed(x, "t1;");
        }
    };

    /** Two wells at the last time that there is. */
    static final State LAST = late(50000);

    static final State[] ALL = {NEW, FEW, FULL, LAST};

    private static final Call NO_CALL = x -> 0;
    private static final Map<State, List<List<Integer>>> WHOLES = new IdentityHashMap<>();

    private Edges() {
    }

    /** Two wells at a time from 201 on. */
    static State late(int time) {
        return x -> {
            x.well(-1, 1000, 1, 10);
            x.well(0, 50, 1, 5);
            int left = time;
            while (left > 0) {
                x.tick(Math.min(left, 200));
                left -= Math.min(left, 200);
            }
            x.draw(0, 990);
            x.draw(1, 20);
        };
    }

    static void typed(NoonWells x, String text) {
        for (int i = 0; i < text.length(); i++) {
            x.type(text.charAt(i));
        }
    }

    static NoonWells at(State state) {
        NoonWells x = new NoonWells();
        state.reach(x);
        return x;
    }

    /** Another state, which some more calls bring about. */
    static State with(State state, State more) {
        return x -> {
            state.reach(x);
            more.reach(x);
        };
    }

    /** A call that is refused, or that asks alone: its answer, and that all is as it was. */
    static void unchanged(String sentence, State state, Call call, int due) {
        Check.due(sentence, call.on(at(state)), due);
        WHOLES.computeIfAbsent(state, s -> whole(s, NO_CALL));
        same(sentence + ", changes nothing", whole(state, call), WHOLES.get(state));
    }

    /** A change: its answer, and that it is one state of the history, which undo restores. */
    static void changed(String sentence, State state, Call call, int due) {
        NoonWells x = at(state);
        int states = x.count(13);
        List<Integer> before = seen(x);
        NoonWells y = at(state);
        Check.due(sentence, call.on(y), due);
        Check.due(sentence + ", is one state", y.count(13), Math.min(states + 1, HISTORY));
        Check.due(sentence + ", undo", y.undo(), Math.min(states, HISTORY - 1));
        same(sentence + ", undone", List.of(seen(y)), List.of(before));
    }

    /** All that a state shows, but the number of states in the history. */
    static List<Integer> seen(NoonWells x) {
        List<Integer> seen = new ArrayList<>();
        for (int what = 0; what <= 21; what++) {
            seen.add(what == 13 ? 0 : x.count(what));
        }
        for (int well = 0; well < seen.get(0); well++) {
            for (int what = 0; what <= 13; what++) {
                seen.add(x.wellOf(well, what));
            }
        }
        for (int drought = 0; drought < seen.get(1); drought++) {
            for (int what = 0; what <= 2; what++) {
                seen.add(x.droughtOf(drought, what));
            }
        }
        for (int place = 1; place <= seen.get(10); place++) {
            for (int what = 0; what <= 2; what++) {
                seen.add(x.requestAt(place, what));
            }
        }
        seen.add(x.fault(0));
        seen.add(x.fault(1));
        return seen;
    }

    /**
     * All that is seen behind a call: then, behind each number of undos, behind a play and behind
     * a tick. Each of these has an object of its own, so that none comes to 512 calls.
     */
    private static List<List<Integer>> whole(State state, Call call) {
        List<List<Integer>> whole = new ArrayList<>();
        for (int undos = 0; undos <= HISTORY + 1; undos++) {
            NoonWells x = at(state);
            call.on(x);
            List<Integer> row = new ArrayList<>();
            row.add(x.count(13));
            for (int i = 0; i < undos; i++) {
                row.add(x.undo());
            }
            row.addAll(seen(x));
            whole.add(row);
        }
        whole.add(seenBehind(state, call, x -> x.play()));
        whole.add(seenBehind(state, call, x -> x.tick(1)));
        return whole;
    }

    private static List<Integer> seenBehind(State state, Call call, Call another) {
        NoonWells x = at(state);
        call.on(x);
        List<Integer> row = new ArrayList<>();
        row.add(another.on(x));
        row.add(x.count(13));
        row.addAll(seen(x));
        return row;
    }

    private static void same(String what, List<List<Integer>> got, List<List<Integer>> want) {
        for (int row = 0; row < want.size(); row++) {
            boolean is = got.get(row).equals(want.get(row));
            Check.holds(is ? what : what + ": look " + row + " has " + got.get(row)
                    + ", due is " + want.get(row), is);
        }
    }
}
