/** Promises 1 to 6: a new object, well, drought, droughtOf, wellOf, aboveAt. */
public final class WellsTest {
    private static final int BAD = -1;
    private static final int LIMIT = -3;
    private static final int NONE = -4;

    public static void main(String[] args) {
        newObjectIsEmpty();
        wellNumbersAndRanges();
        wellLimitComesBehindRanges();
        droughtNumbersAndRanges();
        droughtLimitComesBehindRanges();
        droughtOfTells();
        wellOfTellsWhatWasSet();
        wellOfTellsAccounts();
        wellOfTellsDryness();
        aboveAtTells();
        Check.end();
    }

    private static void newObjectIsEmpty() {
        NoonWells x = new NoonWells();
        int[] zeros = {0, 1, 2, 3, 4, 5, 6, 7, 8, 9, 10, 11, 13, 14, 21};
        for (int what : zeros) {
            Check.due("new count(" + what + ")", x.count(what), 0);
        }
        Check.due("new count(12)", x.count(12), 24);
        Check.due("new count(20)", x.count(20), 24);
        Check.due("new wellOf(0, 1)", x.wellOf(0, 1), BAD);
        Check.due("new aboveAt(0, 0)", x.aboveAt(0, 0), BAD);
        Check.due("new droughtOf(0, 0)", x.droughtOf(0, 0), BAD);
        Check.due("new requestAt(1, 0)", x.requestAt(1, 0), BAD);
        Check.due("new undo()", x.undo(), -2);
        Check.due("new lenders()", x.lenders(), 0);
        Check.due("new fault(0)", x.fault(0), NONE);
        Check.due("new draw(0, 1)", x.draw(0, 1), BAD);
        Check.due("new request(0, 1)", x.request(0, 1), BAD);
        Check.due("new able(0)", x.able(0), BAD);
        Check.due("new drought(0, 1, 1)", x.drought(0, 1, 1), BAD);
        Check.due("new tick(200)", x.tick(200), 0);
        Check.due("two objects are apart", new NoonWells().count(2), 0);
    }

    private static void wellNumbersAndRanges() {
        NoonWells x = new NoonWells();
        Check.due("first above 0", x.well(0, 10, 1, 1), BAD);
        Check.due("first above -2", x.well(-2, 10, 1, 1), BAD);
        Check.due("capacity 0", x.well(-1, 0, 1, 1), BAD);
        Check.due("capacity 1001", x.well(-1, 1001, 1, 1), BAD);
        Check.due("flow -1", x.well(-1, 10, -1, 1), BAD);
        Check.due("flow 101", x.well(-1, 10, 101, 1), BAD);
        Check.due("burst -1", x.well(-1, 10, 1, -1), BAD);
        Check.due("burst 1001", x.well(-1, 10, 1, 1001), BAD);
        Check.due("errors change nothing", x.count(0), 0);
        Check.due("errors are no changes", x.count(13), 0);
        Check.due("smallest", x.well(-1, 1, 0, 0), 0);
        Check.due("second spring", x.well(-1, 10, 1, 1), BAD);
        Check.due("above that is not there", x.well(1, 10, 1, 1), BAD);
        Check.due("above far away", x.well(Integer.MAX_VALUE, 10, 1, 1), BAD);
        Check.due("above far below", x.well(Integer.MIN_VALUE, 10, 1, 1), BAD);
        Check.due("greatest", x.well(0, 1000, 100, 1000), 1);
        Check.due("third", x.well(1, 5, 5, 5), 2);
        Check.due("count(0)", x.count(0), 3);
        Check.due("water at first", x.wellOf(1, 4), 0);
    }

    private static void wellLimitComesBehindRanges() {
        NoonWells x = new NoonWells();
        for (int i = 0; i < 12; i++) {
            Check.due("well " + i, x.well(i - 1, 10, 1, 1), i);
        }
        Check.due("thirteenth", x.well(11, 10, 1, 1), LIMIT);
        Check.due("thirteenth, wrong above", x.well(12, 10, 1, 1), BAD);
        Check.due("thirteenth, wrong capacity", x.well(0, 0, 1, 1), BAD);
        Check.due("thirteenth, wrong flow", x.well(0, 1, 101, 1), BAD);
        Check.due("thirteenth, wrong burst", x.well(0, 1, 1, 1001), BAD);
        Check.due("still twelve", x.count(0), 12);
        Check.due("none more below", x.wellOf(11, 12), 0);
    }

    private static NoonWells twoWells() {
        NoonWells x = new NoonWells();
        x.well(-1, 100, 3, 10);
        x.well(0, 50, 2, 5);
        return x;
    }

    private static void droughtNumbersAndRanges() {
        NoonWells x = twoWells();
        Check.due("from 0", x.drought(0, 0, 5), BAD);
        Check.due("from 60001", x.drought(0, 60001, 60001), BAD);
        Check.due("to ahead of from", x.drought(0, 5, 4), BAD);
        Check.due("to 60001", x.drought(0, 5, 60001), BAD);
        Check.due("well 2", x.drought(2, 1, 1), BAD);
        Check.due("well -1", x.drought(-1, 1, 1), BAD);
        Check.due("errors change nothing", x.count(1), 0);
        Check.due("one time", x.drought(0, 1, 1), 0);
        Check.due("last time", x.drought(1, 60000, 60000), 1);
        Check.due("whole time", x.drought(1, 1, 60000), 2);
        x.tick(10);
        Check.due("present time", x.drought(0, 10, 20), BAD);
        Check.due("time + 1", x.drought(0, 11, 20), 3);
        Check.due("count(1)", x.count(1), 4);
    }

    private static void droughtLimitComesBehindRanges() {
        NoonWells x = twoWells();
        for (int i = 0; i < 20; i++) {
            Check.due("drought " + i, x.drought(i % 2, i + 1, i + 1), i);
        }
        Check.due("21st", x.drought(0, 1, 1), LIMIT);
        Check.due("21st, wrong well", x.drought(2, 1, 1), BAD);
        Check.due("21st, wrong from", x.drought(0, 0, 1), BAD);
        Check.due("21st, wrong to", x.drought(0, 2, 1), BAD);
        Check.due("still 20", x.count(1), 20);
        x.tick(200);
        Check.due("old droughts count on", x.drought(0, 300, 300), LIMIT);
        Check.due("flow of 0 in 200 ticks, 10 of them dry",
                x.wellOf(0, 6) + x.wellOf(0, 7), 190 * 3);
    }

    private static void droughtOfTells() {
        NoonWells x = twoWells();
        x.drought(1, 5, 9);
        x.drought(0, 7, 60000);
        Check.due("well of 0", x.droughtOf(0, 0), 1);
        Check.due("from of 0", x.droughtOf(0, 1), 5);
        Check.due("to of 0", x.droughtOf(0, 2), 9);
        Check.due("well of 1", x.droughtOf(1, 0), 0);
        Check.due("from of 1", x.droughtOf(1, 1), 7);
        Check.due("to of 1", x.droughtOf(1, 2), 60000);
        Check.due("drought 2", x.droughtOf(2, 0), BAD);
        Check.due("drought -1", x.droughtOf(-1, 0), BAD);
        Check.due("what -1", x.droughtOf(0, -1), BAD);
        Check.due("what 3", x.droughtOf(0, 3), BAD);
        x.undo();
        Check.due("undone drought", x.droughtOf(1, 0), BAD);
        Check.due("the other one stays", x.droughtOf(0, 1), 5);
    }

    private static void wellOfTellsWhatWasSet() {
        NoonWells x = new NoonWells();
        x.well(-1, 100, 3, 10);
        x.well(0, 50, 2, 5);
        x.well(0, 40, 1, 0);
        x.well(2, 30, 0, 7);
        Check.due("above of the spring", x.wellOf(0, 0), NONE);
        Check.due("above of 3", x.wellOf(3, 0), 2);
        Check.due("above of 2", x.wellOf(2, 0), 0);
        Check.due("capacity", x.wellOf(1, 1), 50);
        Check.due("flow", x.wellOf(1, 2), 2);
        Check.due("burst", x.wellOf(3, 3), 7);
        for (int what = 4; what <= 11; what++) {
            Check.due("at first " + what, x.wellOf(1, what), 0);
        }
        Check.due("below 0", x.wellOf(0, 12), 2);
        Check.due("below 1", x.wellOf(1, 12), 0);
        Check.due("below 2", x.wellOf(2, 12), 1);
        Check.due("no drought", x.wellOf(2, 13), 0);
        Check.due("what -1", x.wellOf(0, -1), BAD);
        Check.due("what 14", x.wellOf(0, 14), BAD);
        Check.due("well -1", x.wellOf(-1, 0), BAD);
        Check.due("well 4", x.wellOf(4, 0), BAD);
        Check.due("well 4, what 13", x.wellOf(4, 13), BAD);
    }

    /** The day is 8: evening at 4, noon at 8, evening at 12. */
    private static void wellOfTellsAccounts() {
        NoonWells x = new NoonWells();
        x.well(-1, 100, 1, 50);
        x.well(0, 20, 4, 0);
        x.set(0, 8);
        x.tick(7);
        Check.due("water below is full", x.wellOf(1, 4), 20);
        Check.due("got by flow, no spill", x.wellOf(1, 6), 20);
        Check.due("spilled", x.wellOf(1, 7), 8);
        x.tick(1);
        Check.due("noon: lent down to half", x.wellOf(1, 4), 10);
        Check.due("noon: claim", x.wellOf(1, 5), 10);
        Check.due("noon: got by the one above", x.wellOf(0, 10), 10);
        Check.due("noon: the lender got none", x.wellOf(1, 10), 0);
        Check.due("noon: water above", x.wellOf(0, 4), 18);
        Check.due("lent water is no flow", x.wellOf(0, 6), 8);
        Check.due("draw", x.draw(1, 15), 5);
        Check.due("given to itself", x.wellOf(1, 8), 10);
        Check.due("given to others", x.wellOf(0, 9), 5);
        Check.due("the giver gave itself none", x.wellOf(0, 8), 0);
        Check.due("the drawn one gave others none", x.wellOf(1, 9), 0);
        x.tick(4);
        // Well 1 has 16 of 20 by its flow: there is room for 4 of the claim of 10.
        Check.due("evening: water", x.wellOf(1, 4), 20);
        Check.due("evening: claim", x.wellOf(1, 5), 6);
        Check.due("evening: got back", x.wellOf(1, 11), 4);
        Check.due("evening: the payer got none", x.wellOf(0, 11), 0);
        Check.due("evening: water above", x.wellOf(0, 4), 18 - 5 + 4 - 4);
    }

    private static void wellOfTellsDryness() {
        NoonWells x = twoWells();
        x.drought(1, 2, 3);
        Check.due("before", x.wellOf(1, 13), 0);
        x.tick(1);
        Check.due("ahead of the first time", x.wellOf(1, 13), 1);
        Check.due("another well", x.wellOf(0, 13), 0);
        Check.due("water at 1", x.wellOf(1, 4), 2);
        x.tick(1);
        Check.due("ahead of the last time", x.wellOf(1, 13), 1);
        Check.due("water at 2", x.wellOf(1, 4), 2);
        x.tick(1);
        Check.due("at the last time", x.wellOf(1, 13), 0);
        Check.due("water at 3", x.wellOf(1, 4), 2);
        x.tick(1);
        Check.due("water at 4", x.wellOf(1, 4), 4);
        Check.due("the other one flowed on", x.wellOf(0, 4), 12);
    }

    private static void aboveAtTells() {
        NoonWells x = new NoonWells();
        x.well(-1, 10, 1, 1);
        x.well(0, 10, 1, 1);
        x.well(0, 10, 1, 1);
        x.well(2, 10, 1, 1);
        x.well(3, 10, 1, 1);
        Check.due("4, 0", x.aboveAt(4, 0), 3);
        Check.due("4, 1", x.aboveAt(4, 1), 2);
        Check.due("4, 2", x.aboveAt(4, 2), 0);
        Check.due("4, 3", x.aboveAt(4, 3), NONE);
        Check.due("4, max", x.aboveAt(4, Integer.MAX_VALUE), NONE);
        Check.due("4, -1", x.aboveAt(4, -1), BAD);
        Check.due("spring", x.aboveAt(0, 0), NONE);
        Check.due("spring, -1", x.aboveAt(0, -1), BAD);
        Check.due("well 5", x.aboveAt(5, 0), BAD);
        Check.due("well -1", x.aboveAt(-1, 0), BAD);
        NoonWells chain = new NoonWells();
        for (int i = 0; i < 12; i++) {
            chain.well(i - 1, 10, 1, 1);
        }
        Check.due("longest chain", chain.aboveAt(11, 10), 0);
        Check.due("behind the longest chain", chain.aboveAt(11, 11), NONE);
        Check.due("far behind it", chain.aboveAt(11, 12), NONE);
    }
}
