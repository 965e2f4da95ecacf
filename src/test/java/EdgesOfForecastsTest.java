/** The boundary cases of promises 13 to 17: able, gives, possibleIn, waterIn, lenders. */
public final class EdgesOfForecastsTest {
    private static final int BAD = Edges.BAD;
    private static final int NOT = Edges.NOT;
    private static final int NONE = Edges.NONE;
    private static final int MIN = Edges.MIN;
    private static final int MAX = Edges.MAX;

    /** Three wells in a chain with 20, 10 and 4 buckets, with bursts of 5, 7 and 1. */
    private static final Edges.State CHAIN = x -> {
        x.well(-1, 1000, 20, 5);
        x.well(0, 1000, 10, 7);
        x.well(1, 1000, 4, 1);
        x.tick(1);
    };

    /** A spring that gets 1 bucket a tick, and has 3. */
    private static final Edges.State SLOW = x -> {
        x.well(-1, 1000, 1, 0);
        x.tick(3);
    };

    public static void main(String[] args) {
        ableWell();
        ableIsTheMostThatADrawCanBe();
        ableOfNoneAndOfAll();
        givesWells();
        givesBuckets();
        givesOfEachGiver();
        givesErrorsTogether();
        possibleInWell();
        possibleInBuckets();
        possibleInNowOrInATick();
        possibleInAtMost300Ticks();
        possibleInWithWhatWaits();
        possibleInIsLookedAtBehindWholeTicks();
        possibleInErrorsTogether();
        waterInWell();
        waterInTicks();
        waterInWithWhatWaits();
        waterInIsWhatTicksBring();
        lendersOfHalf();
        lendersOfRoom();
        lendersWithWhatTheyGet();
        lendersOfManyWells();
        lendersAtAnyTime();
        Check.end();
    }

    /** Promise 13: "well: number of the well". */
    private static void ableWell() {
        for (int well : new int[] {MIN, -1, 3, 4, 12, MAX}) {
            Edges.unchanged("13: well " + well + " of 3", Edges.FEW, x -> x.able(well), BAD);
        }
        // At 9 the spring lends at most 30, well 1 has 30 and well 2 has 19.
        Edges.unchanged("13: well 1 of 3", Edges.FEW, x -> x.able(1), 30 + 30);
        Edges.unchanged("13: well 2 of 3", Edges.FEW, x -> x.able(2), 19 + 30);
        Edges.unchanged("13: well 12 of 12", Edges.FULL, x -> x.able(12), BAD);
    }

    /** Promise 13: "the most buckets that could be drawn from a well now": these, and not one more. */
    private static void ableIsTheMostThatADrawCanBe() {
        for (Edges.State state : new Edges.State[] {CHAIN, Edges.FEW, Edges.FULL, Edges.LAST}) {
            int wells = Edges.at(state).count(0);
            for (int well = 0; well < wells; well++) {
                int most = Edges.at(state).able(well);
                if (most > 0) {
                    Check.holds("13: " + most + " of " + well,
                            Edges.at(state).draw(well, most) >= 0);
                    NoonWells x = Edges.at(state);
                    x.draw(well, most);
                    int again = x.able(well);
                    Check.holds("13: less then", again < most);
                }
                Check.due("13: one more than " + most + " of " + well,
                        Edges.at(state).draw(well, most + 1), NOT);
            }
        }
        Edges.unchanged("13: 4 and 7 and 5", CHAIN, x -> x.able(2), 16);
        Edges.unchanged("13: 10 and 5", CHAIN, x -> x.able(1), 15);
        Edges.unchanged("13: 20", CHAIN, x -> x.able(0), 20);
    }

    /** Promise 13: nothing of dry wells; all of twelve wells of 1000 with bursts of 1000. */
    private static void ableOfNoneAndOfAll() {
        NoonWells x = Edges.at(Edges.NEW);
        for (int i = 0; i < 12; i++) {
            x.well(i - 1, 1000, 100, 1000);
        }
        for (int well = 0; well < 12; well++) {
            Check.due("13: none", x.able(well), 0);
        }
        x.tick(10);
        for (int well = 0; well < 12; well++) {
            Check.due("13: all of " + (well + 1), x.able(well), 1000 * (well + 1));
        }
    }

    /** Promise 14: "well: number of the well from which would be drawn", "giver: number". */
    private static void givesWells() {
        for (int well : new int[] {MIN, -1, 3, 4, MAX}) {
            Edges.unchanged("14: well " + well, CHAIN, x -> x.gives(well, 1, 0), BAD);
            Edges.unchanged("14: giver " + well, CHAIN, x -> x.gives(2, 1, well), BAD);
            Edges.unchanged("14: both " + well, CHAIN, x -> x.gives(well, 1, well), BAD);
        }
        Edges.unchanged("14: well 0", CHAIN, x -> x.gives(0, 1, 0), 1);
        Edges.unchanged("14: well 2, giver 0", CHAIN, x -> x.gives(2, 1, 0), 0);
        Edges.unchanged("14: well 2, giver 2", CHAIN, x -> x.gives(2, 1, 2), 1);
    }

    /** Promise 14: "buckets: 1 to 999". */
    private static void givesBuckets() {
        Edges.State great = x -> {
            x.well(-1, 1000, 100, 0);
            x.tick(10);
        };
        for (int buckets : new int[] {MIN, -1, 0, 1000, 1001, MAX}) {
            Edges.unchanged("14: " + buckets, great, x -> x.gives(0, buckets, 0), BAD);
        }
        for (int buckets : new int[] {1, 2, 998, 999}) {
            Edges.unchanged("14: " + buckets, great, x -> x.gives(0, buckets, 0), buckets);
        }
    }

    /** Promise 14: "Returns the buckets, 0 if it is none of those that would". */
    private static void givesOfEachGiver() {
        int[][] due = {{1, 0, 0, 1}, {3, 0, 0, 3}, {4, 0, 0, 4}, {5, 0, 1, 4}, {10, 0, 6, 4},
            {11, 0, 7, 4}, {12, 1, 7, 4}, {15, 4, 7, 4}, {16, 5, 7, 4}, {17, NOT, NOT, NOT}};
        for (int[] row : due) {
            for (int giver = 0; giver < 3; giver++) {
                int told = giver;
                Edges.unchanged("14: " + row[0] + " by " + giver, CHAIN,
                        x -> x.gives(2, row[0], told), row[giver + 1]);
            }
        }
        Edges.unchanged("14: one below gives none", CHAIN, x -> x.gives(1, 15, 2), 0);
        Edges.unchanged("14: one beside gives none", Edges.FEW, x -> x.gives(1, 60, 2), 0);
        Edges.unchanged("14: the one above them does", Edges.FEW, x -> x.gives(1, 60, 0), 30);
    }

    /** Errors: "INVALID_ARGUMENT is returned rather than NOT_POSSIBLE". */
    private static void givesErrorsTogether() {
        Edges.unchanged("14: not possible", CHAIN, x -> x.gives(2, 999, 2), NOT);
        Edges.unchanged("14: not possible, one that gives none", CHAIN,
                x -> x.gives(1, 16, 2), NOT);
        Edges.unchanged("14: giver 3, not possible", CHAIN, x -> x.gives(2, 999, 3), BAD);
        Edges.unchanged("14: giver -1, not possible", CHAIN, x -> x.gives(2, 999, -1), BAD);
        Edges.unchanged("14: well 3, not possible", CHAIN, x -> x.gives(3, 999, 2), BAD);
        Edges.unchanged("14: 1000, not possible", CHAIN, x -> x.gives(2, 1000, 2), BAD);
    }

    /** Promise 15: "well: number of the well". */
    private static void possibleInWell() {
        for (int well : new int[] {MIN, -1, 3, 4, MAX}) {
            Edges.unchanged("15: well " + well, CHAIN, x -> x.possibleIn(well, 1), BAD);
        }
        Edges.unchanged("15: well 0", CHAIN, x -> x.possibleIn(0, 20), 0);
        Edges.unchanged("15: well 2", CHAIN, x -> x.possibleIn(2, 16), 0);
    }

    /** Promise 15: "buckets: 1 to 999". */
    private static void possibleInBuckets() {
        for (int buckets : new int[] {MIN, -1, 0, 1000, 1001, MAX}) {
            Edges.unchanged("15: " + buckets, CHAIN, x -> x.possibleIn(0, buckets), BAD);
        }
        Edges.unchanged("15: 1", CHAIN, x -> x.possibleIn(0, 1), 0);
        Edges.unchanged("15: 2", CHAIN, x -> x.possibleIn(0, 2), 0);
        Edges.unchanged("15: 999 in less than 300", CHAIN, x -> x.possibleIn(0, 999), 49);
        Edges.unchanged("15: 980 in less than 300", CHAIN, x -> x.possibleIn(0, 980), 48);
        Edges.unchanged("15: 981 in less than 300", CHAIN, x -> x.possibleIn(0, 981), 49);
    }

    /** Promise 15: "0 if it is possible now": 2, 3 and 4 of 3. */
    private static void possibleInNowOrInATick() {
        Edges.unchanged("15: 2 of 3", SLOW, x -> x.possibleIn(0, 2), 0);
        Edges.unchanged("15: 3 of 3", SLOW, x -> x.possibleIn(0, 3), 0);
        Edges.unchanged("15: 4 of 3", SLOW, x -> x.possibleIn(0, 4), 1);
        Edges.unchanged("15: 5 of 3", SLOW, x -> x.possibleIn(0, 5), 2);
    }

    /** Promise 15: "NOT_FOUND if it would not be in 300 ticks": in 299, 300 and 301. */
    private static void possibleInAtMost300Ticks() {
        Edges.unchanged("15: in 299 ticks", SLOW, x -> x.possibleIn(0, 302), 299);
        Edges.unchanged("15: in 300 ticks", SLOW, x -> x.possibleIn(0, 303), 300);
        Edges.unchanged("15: in 301 ticks", SLOW, x -> x.possibleIn(0, 304), NONE);
        Edges.unchanged("15: in 302 ticks", SLOW, x -> x.possibleIn(0, 305), NONE);
        Edges.unchanged("15: never", SLOW, x -> x.possibleIn(0, 999), NONE);
        Edges.State full = x -> {
            x.well(-1, 10, 100, 0);
            x.well(0, 5, 0, 0);
        };
        Edges.unchanged("15: all of the capacity", full, x -> x.possibleIn(0, 10), 1);
        Edges.unchanged("15: more than the capacity", full, x -> x.possibleIn(0, 11), NONE);
        Edges.unchanged("15: no flow and no burst", full, x -> x.possibleIn(1, 1), NONE);
        Edges.State dry = Edges.with(SLOW, x -> x.drought(0, 5, 303));
        Edges.unchanged("15: ahead of a drought", dry, x -> x.possibleIn(0, 4), 1);
        Edges.unchanged("15: behind a drought of 299 ticks", Edges.with(SLOW,
                x -> x.drought(0, 4, 302)), x -> x.possibleIn(0, 4), 300);
        Edges.unchanged("15: behind a drought of 300 ticks", Edges.with(SLOW,
                x -> x.drought(0, 4, 303)), x -> x.possibleIn(0, 4), NONE);
    }

    /** Promise 15: "if nothing else happened but what waits": by both settings of passing over. */
    private static void possibleInWithWhatWaits() {
        Edges.State one = Edges.with(SLOW, x -> x.request(0, 5));
        Edges.unchanged("15: 3 now", one, x -> x.possibleIn(0, 3), 0);
        Edges.unchanged("15: 4 ahead of the request", one, x -> x.possibleIn(0, 4), 1);
        Edges.unchanged("15: 5 behind the request", one, x -> x.possibleIn(0, 5), 7);
        Edges.State two = Edges.with(one, x -> x.request(0, 2));
        Edges.unchanged("15: 5 behind both", two, x -> x.possibleIn(0, 5), 9);
        Edges.State passing = Edges.with(two, x -> x.set(1, 1));
        // The 2 are drawn first, of 4; then the 5 of 5.
        Edges.unchanged("15: 4, when the second is passed on", passing,
                x -> x.possibleIn(0, 4), 3);
        Edges.unchanged("15: 5, when the second is passed on", passing,
                x -> x.possibleIn(0, 5), 9);
    }

    /** Promise 15: "(it is looked at behind each whole tick)": what a tick brings and draws. */
    private static void possibleInIsLookedAtBehindWholeTicks() {
        Edges.State state = x -> {
            x.well(-1, 100, 0, 0);
            x.well(0, 10, 10, 0);
            x.set(0, 4);
        };
        Edges.unchanged("15: 5 behind noon", state, x -> x.possibleIn(0, 5), 4);
        Edges.unchanged("15: 6 behind another noon", state, x -> x.possibleIn(0, 6), 8);
        Edges.unchanged("15: 5, when a request takes 5 in each tick",
                Edges.with(state, x -> x.request(0, 5)), x -> x.possibleIn(0, 5), 8);
        Edges.unchanged("15: 10 below", state, x -> x.possibleIn(1, 10), 1);
        Edges.unchanged("15: 10 below, taken by a request",
                Edges.with(state, x -> x.request(1, 10)), x -> x.possibleIn(1, 10), 2);
    }

    /** Errors: INVALID_ARGUMENT "rather than" NOT_FOUND. */
    private static void possibleInErrorsTogether() {
        Edges.State never = x -> x.well(-1, 10, 0, 0);
        Edges.unchanged("15: never", never, x -> x.possibleIn(0, 1), NONE);
        Edges.unchanged("15: never, 0 buckets", never, x -> x.possibleIn(0, 0), BAD);
        Edges.unchanged("15: never, 1000 buckets", never, x -> x.possibleIn(0, 1000), BAD);
        Edges.unchanged("15: never, well 1", never, x -> x.possibleIn(1, 1), BAD);
    }

    /** Promise 16: "well: number of the well". */
    private static void waterInWell() {
        for (int well : new int[] {MIN, -1, 3, 4, MAX}) {
            Edges.unchanged("16: well " + well, CHAIN, x -> x.waterIn(well, 0), BAD);
            Edges.unchanged("16: well " + well, CHAIN, x -> x.waterIn(well, 1), BAD);
        }
        Edges.unchanged("16: well 0", CHAIN, x -> x.waterIn(0, 1), 40);
        Edges.unchanged("16: well 2", CHAIN, x -> x.waterIn(2, 1), 8);
    }

    /** Promise 16: "ticks: 0 to 300". */
    private static void waterInTicks() {
        for (int ticks : new int[] {MIN, -1, 301, 302, MAX}) {
            Edges.unchanged("16: " + ticks, SLOW, x -> x.waterIn(0, ticks), BAD);
            Edges.unchanged("16: " + ticks, Edges.FULL, x -> x.waterIn(0, ticks), BAD);
        }
        for (int ticks : new int[] {0, 1, 2, 199, 200, 201, 299, 300}) {
            Edges.unchanged("16: " + ticks, SLOW, x -> x.waterIn(0, ticks), 3 + ticks);
        }
    }

    /** Promise 16: "if nothing else happened but what waits". */
    private static void waterInWithWhatWaits() {
        Edges.State one = Edges.with(SLOW, x -> x.request(0, 5));
        int[] due = {3, 4, 0, 1, 2};
        for (int ticks = 0; ticks < due.length; ticks++) {
            int told = ticks;
            Edges.unchanged("16: one of 5 waits, " + ticks, one, x -> x.waterIn(0, told),
                    due[ticks]);
        }
        Edges.unchanged("16: all that waits is drawn in 300", one, x -> x.waterIn(0, 300), 298);
    }

    /** Promise 16: flow up to the capacity, droughts, noon, evening and the row, as they come. */
    private static void waterInIsWhatTicksBring() {
        for (Edges.State state : new Edges.State[] {CHAIN, SLOW, Edges.FEW, Edges.FULL}) {
            int wells = Edges.at(state).count(0);
            for (int ticks = 1; ticks <= 33; ticks += 2) {
                NoonWells then = Edges.at(state);
                then.tick(ticks);
                NoonWells now = Edges.at(state);
                for (int well = 0; well < wells; well++) {
                    Check.due("16: " + well + " in " + ticks, now.waterIn(well, ticks),
                            then.wellOf(well, 4));
                }
            }
        }
    }

    /** A well below a great spring without water. */
    private static NoonWells oneBelow(int capacity, int water) {
        NoonWells x = new NoonWells();
        x.well(-1, 1000, 0, 0);
        x.well(0, capacity, water, 0);
        x.tick(1);
        return x;
    }

    /** Promise 17, noon: "more than half of its capacity (capacity / 2)". */
    private static void lendersOfHalf() {
        int[][] due = {{10, 4, 0}, {10, 5, 0}, {10, 6, 2}, {10, 10, 2}, {11, 5, 0}, {11, 6, 2},
            {1, 0, 0}, {1, 1, 2}, {2, 1, 0}, {2, 2, 2}, {3, 1, 0}, {3, 2, 2}};
        for (int[] row : due) {
            Check.due("17: " + row[1] + " of " + row[0], oneBelow(row[0], row[1]).lenders(),
                    row[2]);
        }
    }

    /** Promise 17: "would lend something": none without room above. */
    private static void lendersOfRoom() {
        int[][] due = {{10, 0}, {9, 2}, {8, 2}, {0, 2}};
        for (int[] row : due) {
            NoonWells x = new NoonWells();
            x.well(-1, 10, row[0], 0);
            x.well(0, 10, 10, 0);
            x.tick(1);
            Check.due("17: " + row[0] + " of 10 above", x.lenders(), row[1]);
        }
        // Two wells with 5 to lend each: room for 6 and 5, counted from the greatest number down.
        int[][] two = {{4, 2 + 4}, {5, 4}, {9, 4}, {10, 0}};
        for (int[] row : two) {
            NoonWells x = new NoonWells();
            x.well(-1, 10, row[0], 0);
            x.well(0, 10, 10, 0);
            x.well(0, 10, 10, 0);
            x.tick(1);
            Check.due("17: " + row[0] + " of 10 above two", x.lenders(), row[1]);
        }
    }

    /** Promise 17: "(each with what it gets by it from those below it)". */
    private static void lendersWithWhatTheyGet() {
        // Well 1 has 4, 5 and 6 of 20, and gets 5: it has 9, 10 and 11.
        for (int water : new int[] {4, 5, 6}) {
            NoonWells x = new NoonWells();
            x.well(-1, 100, 0, 0);
            x.well(0, 20, water, 0);
            x.well(1, 10, 10, 0);
            x.tick(1);
            Check.due("17: " + water + " and 5 of 20", x.lenders(), water == 6 ? 2 + 4 : 4);
        }
        // Well 1 is full, so that well 2 finds no room, though 1 lends then.
        NoonWells full = new NoonWells();
        full.well(-1, 100, 0, 0);
        full.well(0, 10, 10, 0);
        full.well(1, 10, 10, 0);
        full.tick(1);
        Check.due("17: no room yet for what is below", full.lenders(), 2);
    }

    /** Promise 17: "2 to the power of the number for each of them": up to 2 to the power of 11. */
    private static void lendersOfManyWells() {
        NoonWells x = new NoonWells();
        x.well(-1, 1000, 100, 0);
        int all = 0;
        for (int well = 1; well < 12; well++) {
            x.well(0, 10, well % 2 == 1 ? 6 : 5, 0);
            all |= well % 2 == 1 ? 1 << well : 0;
        }
        Check.due("17: no water", x.lenders(), 0);
        x.tick(1);
        Check.due("17: each second one", x.lenders(), all);
        x.tick(1);
        Check.due("17: all but the spring", x.lenders(), 4094);
        Check.due("17: the spring alone", Edges.at(SLOW).lenders(), 0);
    }

    /** Promise 17: "if it were noon now": at any time, and changing nothing. */
    private static void lendersAtAnyTime() {
        Edges.State state = x -> {
            x.well(-1, 100, 0, 0);
            x.well(0, 10, 6, 0);
            x.tick(1);
        };
        Edges.unchanged("17: at 1", state, x -> x.lenders(), 2);
        Edges.unchanged("17: at 12", Edges.with(state, x -> x.tick(11)), x -> x.lenders(), 2);
        Edges.unchanged("17: behind noon", Edges.with(state, x -> x.tick(23)), x -> x.lenders(),
                0);
        Edges.unchanged("17: at the last time", Edges.LAST, x -> x.lenders(), 2);
        // In a tick the well would have more than half, but it is now that is asked.
        Edges.State ahead = x -> {
            x.well(-1, 100, 0, 0);
            x.well(0, 10, 5, 0);
            x.tick(1);
        };
        Edges.unchanged("17: a tick ahead", ahead, x -> x.lenders(), 0);
    }
}
