/** Promises 18 and 19: count, undo. */
public final class AccountsTest {
    private static final int BAD = -1;
    private static final int NOT = -2;

    public static void main(String[] args) {
        countRanges();
        countSums();
        countNextNoon();
        countHistoryAndText();
        waterIsKeptInTheAccounts();
        undoRestoresEachChange();
        undoRestoresAllOfAState();
        undoGoesBackThroughAllKindsOfChanges();
        errorsLeaveAFullHistory();
        twelveWellsAreCounted();
        historyKeepsFour();
        errorsAndQuestionsAreNoChanges();
        undoIsNoChange();
        undoLeavesTheText();
        changesBehindUndo();
        Check.end();
    }

    private static void countRanges() {
        NoonWells x = new NoonWells();
        int[] wrong = {Integer.MIN_VALUE, -1, 15, 16, 17, 18, 19, 22, 23, Integer.MAX_VALUE};
        for (int what : wrong) {
            Check.due("count(" + what + ")", x.count(what), BAD);
        }
    }

    /** The day is 8: noon at 8, evening at 12. */
    private static NoonWells busy() {
        NoonWells x = new NoonWells();
        x.well(-1, 100, 1, 50);
        x.well(0, 20, 4, 0);
        x.well(0, 30, 5, 0);
        x.set(0, 8);
        x.tick(8);
        return x;
    }

    private static void countSums() {
        NoonWells x = busy();
        // At 8: 8 + 20 + 30 by flow, 12 and 10 spilled; 15 and 10 lent at noon.
        Check.due("wells", x.count(0), 3);
        Check.due("time", x.count(2), 8);
        Check.due("water", x.count(3), 58);
        Check.due("got by flow", x.count(4), 58);
        Check.due("spilled", x.count(5), 22);
        Check.due("drawn", x.count(6), 0);
        Check.due("lent at noon", x.count(7), 25);
        Check.due("paid back", x.count(8), 0);
        Check.due("claims", x.count(9), 25);
        x.drought(1, 9, 12);
        x.drought(2, 9, 12);
        Check.due("droughts", x.count(1), 2);
        Check.due("10 of 1 and 3 of 0", x.draw(1, 13), 3);
        Check.due("drawn", x.count(6), 13);
        Check.due("drawn at once", x.request(2, 2), 0);
        Check.due("drawn by requests too", x.count(6), 15);
        Check.due("waits", x.request(0, 33), 1);
        Check.due("requests that wait", x.count(10), 1);
        Check.due("8 + 25 - 3 + 3", x.tick(3), 1);
        Check.due("none waits", x.count(10), 0);
        Check.due("drawn behind waiting", x.count(11), 1);
        Check.due("drawn in all", x.count(6), 48);
        x.tick(1);
        // At 12 the spring has 1 bucket, which it pays to well 1.
        Check.due("paid back", x.count(8), 1);
        Check.due("claims", x.count(9), 24);
        Check.due("lent stays", x.count(7), 25);
        Check.due("water", x.count(3), 62 - 48);
    }

    private static void countNextNoon() {
        NoonWells x = new NoonWells();
        Check.due("at 0", x.count(12), 24);
        x.tick(1);
        Check.due("at 1", x.count(12), 23);
        x.tick(22);
        Check.due("at 23", x.count(12), 1);
        x.tick(1);
        Check.due("at noon", x.count(12), 24);
        x.tick(1);
        x.set(0, 7);
        Check.due("25 by a day of 7", x.count(12), 3);
        x.set(0, 100);
        Check.due("25 by a day of 100", x.count(12), 75);
        x.set(0, 5);
        Check.due("25 by a day of 5", x.count(12), 5);
    }

    private static void countHistoryAndText() {
        NoonWells x = new NoonWells();
        Check.due("empty history", x.count(13), 0);
        x.well(-1, 10, 1, 1);
        Check.due("one state", x.count(13), 1);
        Check.typeAll(x, "t1;");
        Check.due("typing is no change", x.count(13), 1);
        Check.due("length", x.count(14), 3);
        x.clearText();
        Check.due("clearing is no change", x.count(13), 1);
        Check.due("length then", x.count(14), 0);
    }

    /** No well gives more than it has: what it got is what it has, gave and lent. */
    private static void waterIsKeptInTheAccounts() {
        NoonWells x = busy();
        for (int i = 0; i < 40; i++) {
            x.request(i % 3, 1 + i * 7 % 43);
            x.tick(1 + i % 3);
            Check.due("in all at " + x.count(2), x.count(3), x.count(4) - x.count(6));
            Check.due("claims at " + x.count(2), x.count(9), x.count(7) - x.count(8));
        }
        int given = 0;
        for (int well = 0; well < 3; well++) {
            given += x.wellOf(well, 8) + x.wellOf(well, 9);
        }
        Check.due("given", x.count(6), given);
        Check.holds("something was drawn behind waiting", x.count(11) > 0);
    }

    private static void undoRestoresEachChange() {
        NoonWells x = new NoonWells();
        Check.due("nothing to undo", x.undo(), NOT);
        x.well(-1, 100, 10, 10);
        Check.due("undo well", x.undo(), 0);
        Check.due("no wells", x.count(0), 0);
        Check.due("nothing more to undo", x.undo(), NOT);
        x.well(-1, 100, 10, 10);
        x.well(0, 100, 10, 10);
        Check.due("undo the second well", x.undo(), 1);
        Check.due("none below", x.wellOf(0, 12), 0);
        x.drought(0, 5, 9);
        Check.due("undo drought", x.undo(), 1);
        Check.due("no drought", x.count(1), 0);
        x.tick(3);
        Check.due("undo tick", x.undo(), 1);
        Check.due("time", x.count(2), 0);
        Check.due("water", x.count(3), 0);
        x.tick(1);
        x.draw(0, 4);
        Check.due("undo draw", x.undo(), 2);
        Check.due("drawn", x.count(6), 0);
        x.request(0, 4);
        Check.due("undo a request drawn at once", x.undo(), 2);
        Check.due("water is back", x.wellOf(0, 4), 10);
        x.request(0, 40);
        Check.due("undo a request that waits", x.undo(), 2);
        Check.due("none waits", x.count(10), 0);
        x.request(0, 40);
        x.cancel(1);
        Check.due("undo cancel", x.undo(), 3);
        Check.due("it waits again", x.requestAt(1, 1), 40);
        x.set(0, 9);
        Check.due("undo set", x.undo(), 3);
        Check.due("day", x.count(20), 24);
        x.set(1, 1);
        x.undo();
        Check.due("passing over", x.count(21), 0);
        Check.typeAll(x, "t5;");
        x.play();
        Check.due("time", x.count(2), 6);
        Check.due("undo play", x.undo(), 3);
        Check.due("time then", x.count(2), 1);
    }

    private static void undoRestoresAllOfAState() {
        NoonWells x = busy();
        x.request(0, 900);
        x.request(1, 5);
        x.set(1, 1);
        int[][] before = seen(x);
        Check.due("one of them is drawn", x.tick(200), 1);
        x.undo();
        int[][] then = seen(x);
        same("undone", then, before);
        Check.due("the first of the row", x.requestAt(1, 1), 900);
        Check.due("the second of the row", x.requestAt(2, 1), 5);
    }

    private static void undoGoesBackThroughAllKindsOfChanges() {
        for (int kind = 0; kind < 8; kind++) {
            NoonWells x = busy();
            Check.typeAll(x, "t3;");
            x.request(0, 60);
            x.tick(1);
            x.tick(1);
            int[][][] before = new int[4][][];
            for (int i = 0; i < 4; i++) {
                before[i] = seen(x);
                Check.holds("change " + (kind + i * 3) % 8, change(x, (kind + i * 3) % 8) >= 0);
            }
            for (int i = 3; i >= 0; i--) {
                Check.due("undo " + i, x.undo(), i);
                same("kind " + kind + " undone to " + i, seen(x), before[i]);
            }
        }
    }

    private static int change(NoonWells x, int kind) {
        switch (kind) {
            case 0: return x.well(0, 10, 1, 1);
            case 1: return x.drought(1, x.count(2) + 1, x.count(2) + 9);
            case 2: return x.draw(2, 1);
            case 3: return x.request(1, 3);
            case 4: return x.cancel(1);
            case 5: return x.tick(30);
            case 6: return x.set(0, x.count(20) + 1);
            default: return x.play();
        }
    }

    private static void same(String what, int[][] rows, int[][] due) {
        for (int row = 0; row < due.length; row++) {
            for (int i = 0; i < due[row].length; i++) {
                Check.due(what + ": row " + row + " " + i, rows[row][i], due[row][i]);
            }
        }
    }

    private static void errorsLeaveAFullHistory() {
        NoonWells x = new NoonWells();
        x.well(-1, 10, 1, 1);
        for (int i = 0; i < 4; i++) {
            x.tick(1);
        }
        Check.due("draw", x.draw(0, 9), NOT);
        x.type('x');
        Check.due("play", x.play(), NOT);
        Check.due("tick", x.tick(0), BAD);
        x.fault(0);
        x.waterIn(0, 9);
        for (int left = 3; left >= 0; left--) {
            Check.due("undo", x.undo(), left);
            Check.due("time", x.count(2), left);
            Check.due("water", x.count(3), left);
        }
    }

    private static void twelveWellsAreCounted() {
        NoonWells x = new NoonWells();
        x.well(-1, 1000, 1, 1000);
        for (int i = 1; i < 12; i++) {
            x.well(0, 10, 5, 5);
        }
        x.set(0, 4);
        x.tick(4);
        Check.due("lent", x.count(7), 55);
        Check.due("claims", x.count(9), 55);
        Check.due("water", x.count(3), 4 + 110);
        Check.due("spilled", x.count(5), 110);
        for (int i = 1; i < 12; i++) {
            x.drought(i, 5, 9);
        }
        x.tick(2);
        Check.due("paid back", x.count(8), 55);
        Check.due("claim of the last one", x.wellOf(11, 5), 0);
        Check.due("water of the last one", x.wellOf(11, 4), 10);
        Check.due("wells right below", x.wellOf(0, 12), 11);
    }

    private static int[][] seen(NoonWells x) {
        int[][] rows = new int[6][];
        for (int well = 0; well < 3; well++) {
            rows[well] = new int[10];
            for (int i = 0; i < 10; i++) {
                rows[well][i] = x.wellOf(well, i + 4);
            }
        }
        rows[3] = new int[13];
        for (int what = 0; what < 13; what++) {
            rows[3][what] = x.count(what);
        }
        rows[4] = new int[] {x.requestAt(1, 0), x.requestAt(1, 1), x.requestAt(1, 2),
            x.requestAt(2, 1)};
        rows[5] = new int[] {x.droughtOf(0, 0), x.droughtOf(0, 1), x.droughtOf(0, 2),
            x.count(20), x.count(21)};
        return rows;
    }

    private static void historyKeepsFour() {
        NoonWells x = new NoonWells();
        for (int i = 1; i <= 11; i++) {
            x.tick(1);
            Check.due("states behind change " + i, x.count(13), Math.min(i, 4));
        }
        for (int left = 3; left >= 0; left--) {
            Check.due("undo", x.undo(), left);
            Check.due("time", x.count(2), 7 + left);
        }
        Check.due("the oldest ones were dropped", x.undo(), NOT);
        Check.due("time stays", x.count(2), 7);
    }

    private static void errorsAndQuestionsAreNoChanges() {
        NoonWells x = new NoonWells();
        x.well(-1, 10, 1, 1);
        Check.due("well", x.well(5, 1, 1, 1), BAD);
        Check.due("drought", x.drought(0, 0, 0), BAD);
        Check.due("draw", x.draw(0, 5), NOT);
        Check.due("request", x.request(0, 0), BAD);
        Check.due("cancel", x.cancel(1), BAD);
        Check.due("tick", x.tick(0), BAD);
        Check.due("set", x.set(0, 0), BAD);
        x.type('x');
        Check.due("play", x.play(), NOT);
        x.fault(0);
        x.able(0);
        x.lenders();
        x.possibleIn(0, 5);
        x.waterIn(0, 5);
        Check.due("one change", x.count(13), 1);
    }

    private static void undoIsNoChange() {
        NoonWells x = new NoonWells();
        x.tick(1);
        x.tick(1);
        x.undo();
        Check.due("states", x.count(13), 1);
        Check.due("undo goes on back", x.undo(), 0);
        Check.due("time", x.count(2), 0);
    }

    private static void undoLeavesTheText() {
        NoonWells x = new NoonWells();
        x.tick(1);
        Check.typeAll(x, "t1;");
        Check.due("undo", x.undo(), 0);
        Check.due("the text stays", x.count(14), 3);
        Check.due("its orders too", x.play(), 1);
        x.clearText();
        Check.due("undo", x.undo(), 0);
        Check.due("the cleared text does not come back", x.count(14), 0);
    }

    private static void changesBehindUndo() {
        NoonWells x = new NoonWells();
        for (int i = 0; i < 6; i++) {
            x.tick(10);
        }
        x.undo();
        x.undo();
        Check.due("time", x.count(2), 40);
        x.tick(1);
        Check.due("states", x.count(13), 3);
        x.tick(1);
        x.tick(1);
        Check.due("states then", x.count(13), 4);
        x.undo();
        x.undo();
        x.undo();
        Check.due("time then", x.count(2), 40);
        Check.due("the last one", x.undo(), 0);
        Check.due("time at last", x.count(2), 30);
    }
}
