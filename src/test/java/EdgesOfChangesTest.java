/** The boundary cases of promises 18 and 19, count and undo, and of "Changes and errors". */
public final class EdgesOfChangesTest {
    private static final int BAD = Edges.BAD;
    private static final int NOT = Edges.NOT;
    private static final int MIN = Edges.MIN;
    private static final int MAX = Edges.MAX;

    public static void main(String[] args) {
        constantsAreTheDocuments();
        countWhat();
        countEmptyAndFull();
        countNextNoonIsOneAtLeast();
        countStatesInTheHistory();
        countOfRequestsDrawnBehindWaiting();
        countSumsAreThoseOfTheWells();
        everyChangeIsOneState();
        everyRefusedChangeIsNone();
        everyQuestionIsNoChange();
        historyHoldsFour();
        historyDropsTheOldest();
        undoOfAnEmptyHistory();
        undoTellsWhatIsLeft();
        undoLeavesTheText();
        undoIsNoChange();
        undoOfPlay();
        undoAroundTheHistoryManyTimes();
        invalidArgumentComesFirst();
        Check.end();
    }

    /** "The constants: INVALID_ARGUMENT = -1 ... NOT_POSSIBLE = -2 ... -3 ... NOT_FOUND = -4". */
    private static void constantsAreTheDocuments() {
        Check.due("INVALID_ARGUMENT", NoonWells.INVALID_ARGUMENT, -1);
        Check.due("NOT_POSSIBLE", NoonWells.NOT_POSSIBLE, -2);
        Check.due("LIMIT_REACHED", NoonWells.LIMIT_REACHED, -3);
        Check.due("NOT_FOUND", NoonWells.NOT_FOUND, -4);
    }

    /** Promise 18: "INVALID_ARGUMENT if what is out of range": 0 to 14, 20 and 21 alone. */
    private static void countWhat() {
        for (Edges.State state : Edges.ALL) {
            for (int what : new int[] {MIN, -2, -1, 15, 16, 17, 18, 19, 22, 23, MAX}) {
                Edges.unchanged("18: what " + what, state, x -> x.count(what), BAD);
            }
            for (int what = 0; what <= 14; what++) {
                Check.holds("18: what " + what, Edges.at(state).count(what) >= 0);
            }
            Check.holds("18: what 20", Edges.at(state).count(20) >= 4);
            Check.holds("18: what 21", Edges.at(state).count(21) >= 0);
        }
    }

    /** Promise 18: each number at its smallest and at its greatest. */
    private static void countEmptyAndFull() {
        int[][] due = {{0, 0, 12}, {1, 0, 20}, {2, 0, 8}, {10, 0, 8}, {13, 0, 4}, {14, 0, 60},
            {20, 24, 8}, {21, 0, 1}};
        for (int[] row : due) {
            Edges.unchanged("18: count(" + row[0] + ") of a new object", Edges.NEW,
                    x -> x.count(row[0]), row[1]);
            Edges.unchanged("18: count(" + row[0] + ") of a full one", Edges.FULL,
                    x -> x.count(row[0]), row[2]);
        }
        Edges.unchanged("18: the last time", Edges.LAST, x -> x.count(2), 50000);
    }

    /** Promise 18: "12: in how many ticks the next noon is, 1 at least". */
    private static void countNextNoonIsOneAtLeast() {
        for (int day : new int[] {4, 5, 24, 100}) {
            NoonWells x = Edges.at(Edges.NEW);
            x.set(0, day);
            for (int time = 0; time <= day + 1; time++) {
                Check.due("18: day " + day + " at " + time, x.count(12), day - time % day);
                x.tick(1);
            }
        }
        NoonWells last = Edges.at(Edges.LAST);
        last.set(0, 100);
        Check.due("18: at the noon of 50000", last.count(12), 100);
        last.set(0, 99);
        Check.due("18: at 50000 by a day of 99", last.count(12), 99 - 50000 % 99);
    }

    /** Promise 18: "13: states in the history": 0 to 4. */
    private static void countStatesInTheHistory() {
        NoonWells x = Edges.at(Edges.NEW);
        int[] due = {0, 1, 2, 3, 4, 4, 4};
        for (int changes = 0; changes < due.length; changes++) {
            Check.due("18: behind " + changes + " changes", x.count(13), due[changes]);
            x.tick(1);
        }
    }

    /** Promise 18: "11: requests that were drawn behind waiting": not those drawn at once. */
    private static void countOfRequestsDrawnBehindWaiting() {
        NoonWells x = Edges.at(Edges.NEW);
        x.well(-1, 100, 3, 0);
        x.tick(1);
        x.request(0, 3);
        Check.due("18: one drawn at once", x.count(11), 0);
        x.request(0, 3);
        Check.due("18: one waits", x.count(11), 0);
        x.request(0, 3);
        x.cancel(2);
        Check.due("18: one is cancelled", x.count(11), 0);
        x.tick(1);
        Check.due("18: one is drawn behind waiting", x.count(11), 1);
        Check.due("18: drawn in all", x.count(6), 6);
        x.undo();
        Check.due("18: it is undone", x.count(11), 0);
        Check.due("18: drawn in all, undone", x.count(6), 3);
    }

    /** Promise 18: "3: the water of all wells ... 9: all claims", of none, few and twelve wells. */
    private static void countSumsAreThoseOfTheWells() {
        for (Edges.State state : Edges.ALL) {
            NoonWells x = Edges.at(Edges.with(state, y -> y.tick(21)));
            int[][] sums = {{3, 4}, {4, 6}, {5, 7}, {7, 10}, {8, 11}, {9, 5}};
            for (int[] row : sums) {
                int sum = 0;
                for (int well = 0; well < x.count(0); well++) {
                    sum += x.wellOf(well, row[1]);
                }
                Check.due("18: count(" + row[0] + ")", x.count(row[0]), sum);
            }
            int drawn = 0;
            for (int well = 0; well < x.count(0); well++) {
                drawn += x.wellOf(well, 8) + x.wellOf(well, 9);
            }
            Check.due("18: drawn", x.count(6), drawn);
            Check.due("18: no well gives more than it has", x.count(3), x.count(4) - drawn);
        }
    }

    /** Changes: "well, drought, draw, request, cancel, tick, set and play that return no error". */
    private static void everyChangeIsOneState() {
        Edges.changed("Changes: well", Edges.FEW, x -> x.well(2, 1, 0, 0), 3);
        Edges.changed("Changes: drought", Edges.FEW, x -> x.drought(2, 10, 10), 2);
        Edges.changed("Changes: draw", Edges.FEW, x -> x.draw(2, 19), 0);
        Edges.changed("Changes: request", Edges.FEW, x -> x.request(2, 1), 3);
        Edges.changed("Changes: cancel", Edges.FEW, x -> x.cancel(1), 500);
        Edges.changed("Changes: tick", Edges.FEW, x -> x.tick(1), 0);
        Edges.changed("Changes: set", Edges.FEW, x -> x.set(0, 9), 8);
        Edges.changed("Changes: play", Edges.FEW, x -> x.play(), 2);
        Edges.State few = x -> {
            x.well(-1, 100, 10, 10);
            x.tick(1);
        };
        Edges.changed("Changes: a request drawn at once", few, x -> x.request(0, 10), 0);
        Edges.changed("Changes: a request that waits", few, x -> x.request(0, 11), 1);
        Edges.changed("Changes: play of no orders", few, x -> x.play(), 0);
        Edges.changed("Changes: set to what it was", few, x -> x.set(1, 0), 0);
    }

    /** Changes: "A call that returns an error changes nothing", the history too. */
    private static void everyRefusedChangeIsNone() {
        for (Edges.State state : Edges.ALL) {
            Edges.unchanged("Errors: well", state, x -> x.well(-2, 10, 1, 1), BAD);
            Edges.unchanged("Errors: drought", state, x -> x.drought(-1, 55000, 55000), BAD);
            Edges.unchanged("Errors: draw", state, x -> x.draw(-1, 1), BAD);
            Edges.unchanged("Errors: request", state, x -> x.request(-1, 1), BAD);
            Edges.unchanged("Errors: cancel", state, x -> x.cancel(0), BAD);
            Edges.unchanged("Errors: tick", state, x -> x.tick(0), BAD);
            Edges.unchanged("Errors: set", state, x -> x.set(2, 0), BAD);
        }
        Edges.unchanged("Errors: draw", Edges.FEW, x -> x.draw(0, 999), NOT);
        Edges.unchanged("Errors: play", Edges.with(Edges.FEW, x -> x.type('x')), x -> x.play(),
                NOT);
        Edges.unchanged("Errors: undo", Edges.NEW, x -> x.undo(), NOT);
        Edges.unchanged("Errors: well", Edges.FULL, x -> x.well(0, 10, 1, 1), Edges.LIMIT);
        Edges.unchanged("Errors: drought", Edges.FULL, x -> x.drought(0, 9, 9), Edges.LIMIT);
        Edges.unchanged("Errors: request", Edges.FULL, x -> x.request(0, 1), Edges.LIMIT);
        Edges.unchanged("Errors: tick", Edges.LAST, x -> x.tick(1), Edges.LIMIT);
        Edges.unchanged("Errors: type", Edges.FULL, x -> x.type('t'), Edges.LIMIT);
    }

    /** Changes: the other calls are none, and change nothing that is seen or undone. */
    private static void everyQuestionIsNoChange() {
        for (Edges.State state : new Edges.State[] {Edges.FEW, Edges.FULL}) {
            NoonWells now = Edges.at(state);
            Edges.unchanged("Changes: droughtOf", state, x -> x.droughtOf(1, 1),
                    now.droughtOf(1, 1));
            Edges.unchanged("Changes: wellOf", state, x -> x.wellOf(1, 4), now.wellOf(1, 4));
            Edges.unchanged("Changes: aboveAt", state, x -> x.aboveAt(1, 0), 0);
            Edges.unchanged("Changes: requestAt", state, x -> x.requestAt(1, 1),
                    now.requestAt(1, 1));
            Edges.unchanged("Changes: able", state, x -> x.able(2), now.able(2));
            Edges.unchanged("Changes: gives", state, x -> x.gives(2, 9, 0), now.gives(2, 9, 0));
            Edges.unchanged("Changes: possibleIn", state, x -> x.possibleIn(1, 999), Edges.NONE);
            Edges.unchanged("Changes: waterIn", state, x -> x.waterIn(1, 300),
                    now.waterIn(1, 300));
            Edges.unchanged("Changes: lenders", state, x -> x.lenders(), now.lenders());
            Edges.unchanged("Changes: count", state, x -> x.count(13), 4);
            Edges.unchanged("Changes: fault", state, x -> x.fault(0), Edges.NONE);
        }
        NoonWells x = Edges.at(Edges.FEW);
        x.clearText();
        x.type('t');
        Check.due("Changes: typing and clearing are none", x.count(13), 4);
        x.undo();
        Check.due("Changes: undo goes back over them to the draw", x.count(6), 0);
    }

    private static NoonWells ticked(int times) {
        NoonWells x = Edges.at(Edges.NEW);
        for (int i = 0; i < times; i++) {
            x.tick(1);
        }
        return x;
    }

    /** Changes: "A history of at most 4 states is kept": 3, 4, 5 and 6 changes. */
    private static void historyHoldsFour() {
        for (int changes = 0; changes <= 13; changes++) {
            NoonWells x = ticked(changes);
            int states = Math.min(changes, 4);
            Check.due("Changes: states behind " + changes, x.count(13), states);
            for (int left = states - 1; left >= 0; left--) {
                Check.due("Changes: undo behind " + changes, x.undo(), left);
                Check.due("Changes: states left", x.count(13), left);
                Check.due("Changes: time of it", x.count(2), changes - states + left);
            }
            Check.due("Changes: no more behind " + changes, x.undo(), NOT);
            Check.due("Changes: the time stays", x.count(2), changes - states);
        }
    }

    /** Changes: "if there are 5 states then, the oldest one is dropped". */
    private static void historyDropsTheOldest() {
        NoonWells x = Edges.at(Edges.NEW);
        x.well(-1, 10, 1, 1);
        x.well(0, 10, 1, 1);
        x.set(0, 9);
        x.set(0, 10);
        Check.due("Changes: four", x.count(13), 4);
        x.set(0, 11);
        for (int i = 0; i < 4; i++) {
            x.undo();
        }
        Check.due("Changes: the state without wells was dropped", x.count(0), 1);
        Check.due("Changes: none is left", x.undo(), NOT);
    }

    /** Promise 19: "NOT_POSSIBLE if it is empty." */
    private static void undoOfAnEmptyHistory() {
        Edges.unchanged("19: of a new object", Edges.NEW, x -> x.undo(), NOT);
        Edges.State undone = x -> {
            x.tick(3);
            x.undo();
        };
        Edges.unchanged("19: when all is undone", undone, x -> x.undo(), NOT);
        Edges.State emptied = Edges.with(Edges.FEW, x -> {
            for (int i = 0; i < 4; i++) {
                x.undo();
            }
        });
        Edges.unchanged("19: when all four are undone", emptied, x -> x.undo(), NOT);
        Edges.State refused = x -> {
            x.tick(0);
            x.set(0, 3);
            x.type('t');
        };
        Edges.unchanged("19: refused calls are none", refused, x -> x.undo(), NOT);
    }

    /** Promise 19: "Returns the number of states that are left in the history". */
    private static void undoTellsWhatIsLeft() {
        for (int changes = 1; changes <= 6; changes++) {
            Check.due("19: behind " + changes, ticked(changes).undo(),
                    Math.min(changes, 4) - 1);
        }
    }

    /** Changes: "each change records everything before it but the text". */
    private static void undoLeavesTheText() {
        NoonWells x = Edges.at(Edges.NEW);
        x.tick(1);
        Edges.typed(x, "t2;");
        x.tick(1);
        Edges.typed(x, "t3;");
        Check.due("19: undo", x.undo(), 1);
        Check.due("19: all of the text", x.count(14), 6);
        Check.due("19: undo", x.undo(), 0);
        Check.due("19: still", x.count(14), 6);
        Check.due("19: both orders", x.play(), 2);
        Check.due("19: are done", x.count(2), 5);
        x.clearText();
        Check.due("19: undo", x.undo(), 0);
        Check.due("19: the text stays empty", x.count(14), 0);
        Check.due("19: the time is restored", x.count(2), 0);
    }

    /** Promise 19: the state "is removed from" the history; what was undone does not come back. */
    private static void undoIsNoChange() {
        NoonWells x = ticked(2);
        Check.due("19: first", x.undo(), 1);
        Check.due("19: second", x.undo(), 0);
        Check.due("19: third", x.undo(), NOT);
        Check.due("19: time", x.count(2), 0);
    }

    /** Promise 23: "They are one change, also if there are none." */
    private static void undoOfPlay() {
        for (String text : new String[] {"", "t1;", "t1;t1;t1;t1;t1;t1;"}) {
            NoonWells x = ticked(1);
            Edges.typed(x, text);
            Check.due("19: play of " + text, x.play(), text.length() / 3);
            Check.due("19: one state more", x.count(13), 2);
            Check.due("19: undone at once", x.undo(), 1);
            Check.due("19: time ahead of it", x.count(2), 1);
        }
    }

    /** Changes: histories that are filled and emptied many times, to each depth. */
    private static void undoAroundTheHistoryManyTimes() {
        NoonWells x = Edges.at(Edges.NEW);
        int time = 0;
        int states = 0;
        for (int round = 0; round < 60; round++) {
            int more = round % 7;
            for (int i = 0; i < more; i++) {
                x.tick(1);
            }
            time += more;
            states = Math.min(states + more, 4);
            int back = Math.min(round % 5, states);
            for (int i = 0; i < back; i++) {
                x.undo();
            }
            time -= back;
            states -= back;
            Check.due("19: states of round " + round, x.count(13), states);
            Check.due("19: time of round " + round, x.count(2), time);
        }
    }

    /** Errors: "INVALID_ARGUMENT is returned rather than NOT_POSSIBLE ... LIMIT_REACHED ...". */
    private static void invalidArgumentComesFirst() {
        Edges.unchanged("Errors: well, full", Edges.FULL, x -> x.well(0, 0, 1, 1), BAD);
        Edges.unchanged("Errors: drought, full", Edges.FULL, x -> x.drought(12, 9, 9), BAD);
        Edges.unchanged("Errors: draw, not possible", Edges.FULL, x -> x.draw(12, 999), BAD);
        Edges.unchanged("Errors: request, full", Edges.FULL, x -> x.request(0, 1000), BAD);
        Edges.unchanged("Errors: tick, late", Edges.LAST, x -> x.tick(201), BAD);
        Edges.unchanged("Errors: gives, not possible", Edges.FULL, x -> x.gives(0, 999, 12), BAD);
        Edges.unchanged("Errors: possibleIn, never", Edges.FULL, x -> x.possibleIn(12, 999), BAD);
        Edges.unchanged("Errors: aboveAt, none", Edges.FULL, x -> x.aboveAt(12, 99), BAD);
        Edges.unchanged("Errors: type, full", Edges.FULL, x -> x.type(127), BAD);
        Edges.unchanged("Errors: fault, none", Edges.FULL, x -> x.fault(2), BAD);
        Edges.unchanged("Errors: wellOf, the spring", Edges.FULL, x -> x.wellOf(0, 14), BAD);
    }
}
