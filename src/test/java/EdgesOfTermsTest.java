/** The boundary cases of the document's Terms: wells, draws, a tick, noon, evening, droughts. */
public final class EdgesOfTermsTest {
    private static final int NOT = Edges.NOT;
    private static final int LAST_DROUGHT = 60000;

    public static void main(String[] args) {
        waterIsNoneAtFirst();
        waterIsAtMostTheCapacityByFlow();
        waterIsAtMostTheCapacityAtNoon();
        waterIsAtMostTheCapacityInTheEvening();
        drawFromTheWellItselfAsFarAsItGoes();
        drawFromAboveAtMostItsBurst();
        drawFromAboveAtMostItsWater();
        drawFromAboveThatLikewise();
        drawIsPossibleIfItMakesTheBuckets();
        drawPassesAWellWithoutBurstOrWater();
        drawIsCountedByItsGivers();
        tickMakesTimeGreaterByOne();
        tickGivesFlowAndSpills();
        tickOfADroughtSpillsNothing();
        noonIsAtEachDay();
        noonOfSmallAndGreatDays();
        noonComesBehindFlow();
        noonLendsMoreThanHalf();
        noonLendsWhatHasRoom();
        noonHasNoLendingSpring();
        noonGoesFromTheGreatestNumberDown();
        noonAddsToTheClaim();
        eveningIsAtHalfADay();
        eveningComesBehindFlow();
        eveningPaysTheClaimAtMost();
        eveningPaysNoMoreThanThePayerHas();
        eveningPaysNoMoreThanHasRoom();
        eveningGoesFromTheLowestNumberUp();
        eveningPaysByNumbers();
        eveningLeavesTheRestOfTheClaim();
        droughtIsFromItsFirstTimeToItsLast();
        droughtsMayOverlapAndTouch();
        requestsAreLookedAtBehindAll();
        requestsAreDrawnUpToOneThatIsNotPossible();
        requestsArePassedOver();
        requestsThatWaitOnStayWhatTheyAre();
        Check.end();
    }

    /** A spring and a well below it; the flows come at one time alone, and no more. */
    private static NoonWells flowingOnceAt(int time, int[] spring, int[] below) {
        NoonWells x = new NoonWells();
        x.well(-1, spring[0], spring[1], 1000);
        x.well(0, below[0], below[1], 1000);
        x.set(0, 4);
        for (int well = 0; well < 2; well++) {
            if (time > 1) {
                x.drought(well, 1, time - 1);
            }
            x.drought(well, time + 1, LAST_DROUGHT);
        }
        return x;
    }

    private static void waterAndClaim(String sentence, NoonWells x, int spring, int below,
            int claim) {
        Check.due(sentence + ", water of the spring", x.wellOf(0, 4), spring);
        Check.due(sentence + ", water below", x.wellOf(1, 4), below);
        Check.due(sentence + ", claim", x.wellOf(1, 5), claim);
        Check.due(sentence + ", lent and not paid back", x.count(7) - x.count(8), claim);
        Check.due(sentence + ", all claims", x.count(9), claim);
    }

    /** Wells: "water, 0 at first". */
    private static void waterIsNoneAtFirst() {
        NoonWells x = Edges.at(Edges.FEW);
        x.well(1, 1000, 100, 1000);
        Check.due("Wells: water at first", x.wellOf(3, 4), 0);
        x.tick(1);
        Check.due("Wells: water a tick later", x.wellOf(3, 4), 100);
    }

    /** Wells: "never more than the capacity", by flow: 9, 10 and 11 of 10. */
    private static void waterIsAtMostTheCapacityByFlow() {
        for (int flow : new int[] {9, 10, 11, 100}) {
            NoonWells x = new NoonWells();
            x.well(-1, 10, flow, 0);
            for (int i = 0; i < 3; i++) {
                x.tick(1);
                Check.due("Wells: at most 10 by " + flow, x.wellOf(0, 4),
                        Math.min(10, flow * (i + 1)));
            }
        }
    }

    /** Wells: "never more than the capacity", by lending: room for 9, 10 and 11 of 10. */
    private static void waterIsAtMostTheCapacityAtNoon() {
        for (int capacity : new int[] {9, 10, 11}) {
            NoonWells x = flowingOnceAt(4, new int[] {capacity, 0}, new int[] {20, 20});
            x.tick(4);
            int lent = Math.min(capacity, 10);
            waterAndClaim("Wells: noon, capacity " + capacity, x, lent, 20 - lent, lent);
        }
    }

    /** Wells: "never more than the capacity", by paying back 4: room for 0, 3, 4 and 5 of 20. */
    private static void waterIsAtMostTheCapacityInTheEvening() {
        int[][] due = {{4, 20}, {7, 20}, {8, 20}, {9, 19}};
        for (int[] row : due) {
            NoonWells x = refilled(row[0]);
            x.tick(1);
            Check.due("Wells: evening, drawn " + row[0], x.wellOf(1, 4), row[1]);
        }
    }

    /** Draws: "is taken from the water of this well as far as it goes": 9, 10 and 11 of 10. */
    private static void drawFromTheWellItselfAsFarAsItGoes() {
        int[][] due = {{1, 0}, {9, 0}, {10, 0}, {11, 1}, {12, 2}};
        for (int[] draw : due) {
            NoonWells x = flowingOnceAt(1, new int[] {100, 30}, new int[] {100, 10});
            x.tick(1);
            Check.due("Draws: gives itself", x.gives(1, draw[0], 1), draw[0] - draw[1]);
            Check.due("Draws: draw of " + draw[0], x.draw(1, draw[0]), draw[1]);
            Check.due("Draws: water left", x.wellOf(1, 4), 10 - draw[0] + draw[1]);
            Check.due("Draws: water left above", x.wellOf(0, 4), 30 - draw[1]);
        }
    }

    /** Three wells in a chain with 20, 10 and 4 buckets, with bursts of their own. */
    private static NoonWells chain(int burst0, int burst1, int burst2) {
        NoonWells x = new NoonWells();
        x.well(-1, 1000, 20, burst0);
        x.well(0, 1000, 10, burst1);
        x.well(1, 1000, 4, burst2);
        x.tick(1);
        return x;
    }

    private static void givesOfChain(String sentence, NoonWells x, int buckets, int[] due) {
        for (int giver = 0; giver < 3; giver++) {
            Check.due(sentence + ", " + buckets + " of 2 by " + giver,
                    x.gives(2, buckets, giver), due[giver]);
        }
    }

    /** Draws: "then from the well above it, but at most its burst": 6, 7 and 8 of 7. */
    private static void drawFromAboveAtMostItsBurst() {
        String sentence = "Draws: at most its burst";
        givesOfChain(sentence, chain(5, 7, 1), 10, new int[] {0, 6, 4});
        givesOfChain(sentence, chain(5, 7, 1), 11, new int[] {0, 7, 4});
        givesOfChain(sentence, chain(5, 7, 1), 12, new int[] {1, 7, 4});
        Check.due(sentence + ", 11", chain(5, 7, 1).draw(2, 11), 7);
        Check.due(sentence + ", 12", chain(5, 7, 1).draw(2, 12), 8);
        // The burst is anew for each draw.
        NoonWells x = chain(5, 7, 1);
        x.draw(2, 11);
        givesOfChain(sentence, x, 4, new int[] {1, 3, 0});
    }

    /** Draws: what has less water than its burst gives its water: bursts of 9, 10 and 11 of 10. */
    private static void drawFromAboveAtMostItsWater() {
        String sentence = "Draws: at most its water";
        givesOfChain(sentence, chain(5, 9, 0), 14, new int[] {1, 9, 4});
        givesOfChain(sentence, chain(5, 10, 0), 14, new int[] {0, 10, 4});
        givesOfChain(sentence, chain(5, 11, 0), 14, new int[] {0, 10, 4});
        givesOfChain(sentence, chain(5, 1000, 0), 15, new int[] {1, 10, 4});
        Check.due(sentence + ", all of it", chain(1000, 1000, 0).draw(2, 34), 30);
    }

    /** Draws: "then from the one above that, likewise, and so on": through twelve wells. */
    private static void drawFromAboveThatLikewise() {
        NoonWells x = new NoonWells();
        for (int i = 0; i < 12; i++) {
            x.well(i - 1, 10, 3, 2);
        }
        x.tick(1);
        for (int buckets = 1; buckets <= 25; buckets++) {
            for (int giver = 0; giver < 12; giver += 11) {
                int ahead = giver == 11 ? 0 : 23;
                int most = giver == 11 ? 3 : 2;
                Check.due("Draws: likewise, " + buckets + " by " + giver,
                        x.gives(11, buckets, giver),
                        Math.max(0, Math.min(most, buckets - ahead)));
            }
        }
        Check.due("Draws: 26 of 25", x.draw(11, 26), NOT);
        Check.due("Draws: 25 of 25", x.draw(11, 25), 22);
    }

    /** Draws: "It is possible if this makes n buckets": 15, 16 and 17 of 16. */
    private static void drawIsPossibleIfItMakesTheBuckets() {
        Edges.State state = x -> {
            x.well(-1, 1000, 20, 5);
            x.well(0, 1000, 10, 7);
            x.well(1, 1000, 4, 1);
            x.tick(1);
        };
        Edges.changed("Draws: 15 of 16", state, x -> x.draw(2, 15), 11);
        Edges.changed("Draws: 16 of 16", state, x -> x.draw(2, 16), 12);
        Edges.unchanged("Draws: 17 of 16", state, x -> x.draw(2, 17), NOT);
        Edges.unchanged("Draws: 18 of 16", state, x -> x.draw(2, 18), NOT);
        Edges.changed("Draws: 14 of 1", state, x -> x.draw(1, 14), 4);
        Edges.changed("Draws: 15 of 1", state, x -> x.draw(1, 15), 5);
        Edges.unchanged("Draws: 16 of 1", state, x -> x.draw(1, 16), NOT);
        Edges.changed("Draws: 20 of the spring", state, x -> x.draw(0, 20), 0);
        Edges.unchanged("Draws: 21 of the spring", state, x -> x.draw(0, 21), NOT);
    }

    /** Draws: a burst of 0, or no water, gives none, and the well above that is asked on. */
    private static void drawPassesAWellWithoutBurstOrWater() {
        givesOfChain("Draws: burst 0", chain(5, 0, 0), 5, new int[] {1, 0, 4});
        givesOfChain("Draws: burst 1", chain(5, 1, 0), 5, new int[] {0, 1, 4});
        Check.due("Draws: burst 0, 9", chain(5, 0, 0).draw(2, 9), 5);
        Check.due("Draws: burst 0, 10", chain(5, 0, 0).draw(2, 10), NOT);
        NoonWells x = chain(5, 7, 0);
        x.draw(1, 10);
        givesOfChain("Draws: no water", x, 5, new int[] {1, 0, 4});
        x.draw(2, 4);
        givesOfChain("Draws: no water of its own", x, 5, new int[] {5, 0, 0});
        Check.due("Draws: of the spring alone", x.draw(2, 5), 5);
    }

    /** Draws: "each well counts what it has given to draws from itself, and ... from others". */
    private static void drawIsCountedByItsGivers() {
        NoonWells x = chain(5, 7, 1);
        int[][] due = {{2, 4, 0, 0, 0, 0, 4}, {2, 12, 5, 0, 7, 0, 4}, {0, 15, 5, 15, 7, 0, 4},
            {1, 3, 5, 15, 7, 3, 4}};
        for (int[] row : due) {
            x.draw(row[0], row[1]);
            Check.due("Draws: others by the spring", x.wellOf(0, 9), row[2]);
            Check.due("Draws: itself by the spring", x.wellOf(0, 8), row[3]);
            Check.due("Draws: others by 1", x.wellOf(1, 9), row[4]);
            Check.due("Draws: itself by 1", x.wellOf(1, 8), row[5]);
            Check.due("Draws: itself by 2", x.wellOf(2, 8), row[6]);
            Check.due("Draws: others by 2", x.wellOf(2, 9), 0);
        }
        Check.due("Draws: all", x.count(6), 34);
    }

    /** A tick: "Time becomes greater by 1." */
    private static void tickMakesTimeGreaterByOne() {
        NoonWells x = Edges.at(Edges.NEW);
        Check.due("Tick: time 0 at first", x.count(2), 0);
        x.tick(1);
        Check.due("Tick: then 1", x.count(2), 1);
        x.tick(2);
        Check.due("Tick: then 3", x.count(2), 3);
    }

    /** A tick: "what would be above its capacity is spilled": room for 5, 4, 3 and 0 of 4. */
    private static void tickGivesFlowAndSpills() {
        int[][] due = {{5, 9, 2, 14}, {4, 10, 2, 14}, {3, 10, 3, 13}, {0, 10, 6, 10}};
        for (int[] row : due) {
            NoonWells x = new NoonWells();
            x.well(-1, 10, 4, 0);
            x.tick(3);
            x.draw(0, row[0]);
            x.tick(1);
            Check.due("Tick: water with room " + row[0], x.wellOf(0, 4), row[1]);
            Check.due("Tick: spilled with room " + row[0], x.wellOf(0, 7), row[2]);
            Check.due("Tick: got with room " + row[0], x.wellOf(0, 6), row[3]);
            Check.due("Tick: spilled in all", x.count(5), row[2]);
            Check.due("Tick: got in all", x.count(4), row[3]);
        }
    }

    /** A tick: "each well without a drought gets its flow": the other ones spill nothing. */
    private static void tickOfADroughtSpillsNothing() {
        NoonWells x = new NoonWells();
        x.well(-1, 10, 4, 0);
        x.well(0, 10, 4, 0);
        x.tick(3);
        x.drought(0, 4, 4);
        x.tick(1);
        Check.due("Tick: full and dry", x.wellOf(0, 7), 2);
        Check.due("Tick: full and not dry", x.wellOf(1, 7), 6);
        Check.due("Tick: full and dry, got", x.wellOf(0, 6), 10);
    }

    private static void tickTo(NoonWells x, int time) {
        while (x.count(2) < time) {
            x.tick(Math.min(200, time - x.count(2)));
        }
    }

    /**
     * A tick: "if time mod the day is 0, it is noon", the first and the second one, and "if time
     * mod the day is the day / 2, it is evening": one tick ahead, at the time, one behind.
     */
    private static void dayOf(int day) {
        NoonWells x = new NoonWells();
        x.well(-1, 1000, 0, 0);
        x.well(0, 10, 10, 0);
        x.set(0, day);
        x.drought(1, day + 1, LAST_DROUGHT);
        int[][] due = {{day / 2, 0, 0}, {day - 1, 0, 0}, {day, 5, 0}, {day + 1, 5, 0},
            {day + day / 2 - 1, 5, 0}, {day + day / 2, 5, 5}, {day + day / 2 + 1, 5, 5},
            {2 * day - 1, 5, 5}, {2 * day, 10, 5}, {2 * day + 1, 10, 5},
            {2 * day + day / 2 - 1, 10, 5}, {2 * day + day / 2, 10, 10},
            {2 * day + day / 2 + 1, 10, 10}};
        for (int[] row : due) {
            tickTo(x, row[0]);
            if (x.count(2) == row[0]) {
                String at = "Tick: a day of " + day + " at " + row[0];
                Check.due(at + ", lent", x.count(7), row[1]);
                Check.due(at + ", paid back", x.count(8), row[2]);
                Check.due(at + ", next noon", x.count(12), day - row[0] % day);
            }
        }
    }

    /** A tick: noon and evening of the first day that there is. */
    private static void noonIsAtEachDay() {
        dayOf(24);
    }

    /** Settings: "0 the day (4 to 100...)"; "divisions are rounded down", for odd days. */
    private static void noonOfSmallAndGreatDays() {
        for (int day : new int[] {4, 5, 6, 7, 99, 100}) {
            dayOf(day);
        }
    }

    /** A tick: noon comes behind the flow of its tick, which may be what makes it more than half. */
    private static void noonComesBehindFlow() {
        NoonWells x = flowingOnceAt(4, new int[] {100, 3}, new int[] {10, 6});
        x.tick(3);
        waterAndClaim("Tick: ahead of noon", x, 0, 0, 0);
        x.tick(1);
        waterAndClaim("Tick: flow, then noon", x, 4, 5, 1);
        NoonWells full = flowingOnceAt(4, new int[] {3, 3}, new int[] {10, 6});
        full.tick(4);
        waterAndClaim("Tick: flow leaves no room", full, 3, 6, 0);
    }

    /** Noon: "what it has more than half of its capacity (capacity / 2)", rounded down. */
    private static void noonLendsMoreThanHalf() {
        int[][] due = {{10, 4, 0}, {10, 5, 0}, {10, 6, 1}, {10, 10, 5}, {11, 4, 0}, {11, 5, 0},
            {11, 6, 1}, {11, 11, 6}, {1, 0, 0}, {1, 1, 1}, {2, 1, 0}, {2, 2, 1}, {3, 1, 0},
            {3, 2, 1}};
        for (int[] row : due) {
            NoonWells x = flowingOnceAt(4, new int[] {1000, 0}, new int[] {row[0], row[1]});
            x.tick(4);
            waterAndClaim("Noon: " + row[1] + " of " + row[0], x, row[2], row[1] - row[2], row[2]);
        }
        NoonWells great = new NoonWells();
        great.well(-1, 1000, 0, 0);
        great.well(0, 1000, 100, 0);
        great.tick(24);
        waterAndClaim("Noon: 1000 of 1000", great, 500, 500, 500);
    }

    /** Noon: "but no more than has room there": room for 11, 10, 9, 1 and 0 of 10. */
    private static void noonLendsWhatHasRoom() {
        int[][] due = {{9, 10}, {10, 10}, {11, 9}, {19, 1}, {20, 0}};
        for (int[] row : due) {
            NoonWells x = flowingOnceAt(4, new int[] {20, row[0]}, new int[] {20, 20});
            x.tick(4);
            waterAndClaim("Noon: " + row[0] + " of 20 above", x, row[0] + row[1], 20 - row[1],
                    row[1]);
            Check.due("Noon: got", x.wellOf(0, 10), row[1]);
        }
    }

    /** Noon: "each well but the spring". */
    private static void noonHasNoLendingSpring() {
        NoonWells x = new NoonWells();
        x.well(-1, 10, 10, 10);
        x.set(0, 4);
        x.tick(8);
        Check.due("Noon: the spring alone", x.wellOf(0, 4), 10);
        Check.due("Noon: no claim of the spring", x.wellOf(0, 5), 0);
        Check.due("Noon: no lender", x.lenders(), 0);
        Check.due("Noon: nothing lent", x.count(7), 0);
    }

    /** Noon: "from the greatest number down": what 2 lends to 1 is lent on, and 2 has first room. */
    private static void noonGoesFromTheGreatestNumberDown() {
        NoonWells chain = new NoonWells();
        chain.well(-1, 100, 0, 0);
        chain.well(0, 20, 10, 0);
        chain.well(1, 20, 20, 0);
        chain.set(0, 4);
        chain.drought(1, 2, 4);
        chain.tick(4);
        Check.due("Noon: 1 has half of its own, and lends 10 on", chain.wellOf(1, 5), 10);
        Check.due("Noon: the spring got it", chain.wellOf(0, 4), 10);
        Check.due("Noon: 1 keeps half", chain.wellOf(1, 4), 10);
        NoonWells beside = new NoonWells();
        beside.well(-1, 7, 0, 0);
        beside.well(0, 10, 10, 0);
        beside.well(0, 10, 10, 0);
        beside.set(0, 4);
        beside.tick(4);
        Check.due("Noon: 2 finds room for 5", beside.wellOf(2, 5), 5);
        Check.due("Noon: 1 finds room for 2", beside.wellOf(1, 5), 2);
    }

    /** Noon: "what it has lent so is added to its claim (0 at first)", of two noons. */
    private static void noonAddsToTheClaim() {
        NoonWells x = new NoonWells();
        x.well(-1, 100, 0, 100);
        x.well(0, 10, 10, 0);
        x.set(0, 4);
        Check.due("Noon: claim at first", x.wellOf(1, 5), 0);
        x.tick(4);
        waterAndClaim("Noon: first", x, 5, 5, 5);
        x.draw(0, 5);
        x.tick(4);
        waterAndClaim("Noon: second", x, 5, 5, 10);
        Check.due("Noon: the spring got in all", x.wellOf(0, 10), 10);
    }

    /** A tick: "if time mod the day is the day / 2, it is evening", of the day 4 and of the day 5. */
    private static void eveningIsAtHalfADay() {
        for (int day : new int[] {4, 5}) {
            NoonWells x = new NoonWells();
            x.well(-1, 100, 0, 0);
            x.well(0, 10, 10, 0);
            x.set(0, day);
            x.tick(day);
            x.drought(1, day + 1, LAST_DROUGHT);
            x.tick(1);
            waterAndClaim("Evening: ahead", x, 5, 5, 5);
            x.tick(1);
            waterAndClaim("Evening: of " + day, x, 0, 10, 0);
            x.tick(1);
            waterAndClaim("Evening: behind", x, 0, 10, 0);
        }
    }

    /** A tick: evening comes behind the flow of its tick, which takes room and is paid on. */
    private static void eveningComesBehindFlow() {
        NoonWells x = new NoonWells();
        x.well(-1, 100, 2, 100);
        x.well(0, 10, 10, 0);
        x.set(0, 4);
        x.drought(0, 1, 5);
        x.drought(1, 5, 5);
        x.tick(5);
        x.draw(0, 5);
        x.draw(1, 5);
        x.drought(1, 6, LAST_DROUGHT);
        x.tick(1);
        waterAndClaim("Evening: the flow is paid", x, 0, 2, 3);
        NoonWells full = new NoonWells();
        full.well(-1, 100, 0, 0);
        full.well(0, 10, 10, 0);
        full.set(0, 4);
        full.tick(6);
        waterAndClaim("Evening: the flow leaves no room", full, 5, 10, 5);
    }

    /** Lent 10 at noon, then drawn down to a payer's water and to the water below. */
    private static NoonWells lentTen(int payer, int below) {
        NoonWells x = flowingOnceAt(4, new int[] {1000, 12}, new int[] {20, 20});
        x.tick(4);
        if (payer < 22) {
            x.draw(0, 22 - payer);
        }
        if (below < 10) {
            x.draw(1, 10 - below);
        }
        waterAndClaim("Evening: ahead of it", x, payer, below, 10);
        return x;
    }

    /** Lent 4 at noon, then drawn, then filled by 14: room for drawn - 4 of 20. */
    private static NoonWells refilled(int drawn) {
        NoonWells x = new NoonWells();
        x.well(-1, 1000, 0, 0);
        x.well(0, 20, 14, 0);
        x.set(0, 4);
        x.drought(1, 1, 3);
        x.drought(1, 6, LAST_DROUGHT);
        x.tick(4);
        x.draw(1, drawn);
        x.tick(1);
        waterAndClaim("Evening: ahead of it", x, 4, Math.min(20, 24 - drawn), 4);
        return x;
    }

    /** Evening: "as much as the claim of that one": of a payer with more, and with room for more. */
    private static void eveningPaysTheClaimAtMost() {
        for (int below : new int[] {10, 9, 0}) {
            NoonWells x = lentTen(22, below);
            x.tick(2);
            waterAndClaim("Evening: the claim, " + below, x, 12, below + 10, 0);
            Check.due("Evening: got back", x.wellOf(1, 11), 10);
        }
        NoonWells none = flowingOnceAt(4, new int[] {1000, 50}, new int[] {20, 3});
        none.tick(6);
        waterAndClaim("Evening: no claim", none, 50, 3, 0);
    }

    /** Evening: "but no more than it has itself": 11, 10, 9, 1 and 0 for a claim of 10. */
    private static void eveningPaysNoMoreThanThePayerHas() {
        for (int payer : new int[] {11, 10, 9, 1, 0}) {
            NoonWells x = lentTen(payer, 5);
            x.tick(2);
            int paid = Math.min(payer, 10);
            waterAndClaim("Evening: payer with " + payer, x, payer - paid, 5 + paid, 10 - paid);
            Check.due("Evening: got back", x.wellOf(1, 11), paid);
            Check.due("Evening: the payer got none back", x.wellOf(0, 11), 0);
        }
    }

    /** Evening: "and no more than has room there": room for 5, 4, 3, 1 and 0 of a claim of 4. */
    private static void eveningPaysNoMoreThanHasRoom() {
        for (int room : new int[] {5, 4, 3, 1, 0}) {
            NoonWells x = refilled(room + 4);
            x.tick(1);
            int paid = Math.min(room, 4);
            waterAndClaim("Evening: room for " + room, x, 4 - paid, 20 - room + paid, 4 - paid);
            Check.due("Evening: paid back", x.count(8), paid);
        }
    }

    /** Evening: "from the lowest number up": what 0 pays to 1 is paid on to 2. */
    private static void eveningGoesFromTheLowestNumberUp() {
        NoonWells x = new NoonWells();
        x.well(-1, 100, 0, 0);
        x.well(0, 20, 10, 0);
        x.well(1, 20, 20, 0);
        x.set(0, 4);
        x.drought(1, 2, LAST_DROUGHT);
        x.drought(2, 5, LAST_DROUGHT);
        x.tick(4);
        // At noon 2 lent 10 to 1, which had 20 then and lent 10 to the spring.
        x.draw(1, 10);
        x.draw(2, 10);
        x.tick(2);
        Check.due("Evening: 0 paid all", x.wellOf(0, 4), 0);
        Check.due("Evening: 1 paid it on", x.wellOf(1, 4), 0);
        Check.due("Evening: 2 has it", x.wellOf(2, 4), 10);
        Check.due("Evening: claim of 1", x.wellOf(1, 5), 0);
        Check.due("Evening: claim of 2", x.wellOf(2, 5), 0);
        Check.due("Evening: paid back in all", x.count(8), 20);
    }

    /** Evening: "to each of these, by their numbers": 11, 10, 5, 4 and 0 for two claims of 5. */
    private static void eveningPaysByNumbers() {
        for (int payer : new int[] {10, 6, 5, 4, 0}) {
            NoonWells x = new NoonWells();
            x.well(-1, 100, 0, 0);
            x.well(0, 10, 10, 0);
            x.well(0, 10, 10, 0);
            x.set(0, 4);
            x.tick(4);
            x.drought(1, 5, LAST_DROUGHT);
            x.drought(2, 5, LAST_DROUGHT);
            if (payer < 10) {
                x.draw(0, 10 - payer);
            }
            x.tick(2);
            int first = Math.min(5, payer);
            int second = Math.min(5, payer - first);
            Check.due("Evening: first of " + payer, x.wellOf(1, 11), first);
            Check.due("Evening: second of " + payer, x.wellOf(2, 11), second);
            Check.due("Evening: claim of the first", x.wellOf(1, 5), 5 - first);
            Check.due("Evening: claim of the second", x.wellOf(2, 5), 5 - second);
        }
    }

    /** Evening: "the claim becomes less by this": the rest is paid in a later evening. */
    private static void eveningLeavesTheRestOfTheClaim() {
        NoonWells x = new NoonWells();
        x.well(-1, 100, 5, 100);
        x.well(0, 20, 20, 100);
        x.set(0, 4);
        x.drought(0, 1, 6);
        x.drought(1, 5, LAST_DROUGHT);
        x.tick(4);
        x.draw(1, 10);
        x.draw(0, 7);
        x.tick(2);
        waterAndClaim("Evening: 3 of 10", x, 0, 3, 7);
        x.tick(3);
        waterAndClaim("Evening: between", x, 15, 3, 7);
        x.tick(1);
        waterAndClaim("Evening: the rest", x, 20 - 7, 10, 0);
    }

    /** Droughts: "no flow at the times from the first one on, up to the last one". */
    private static void droughtIsFromItsFirstTimeToItsLast() {
        for (int[] times : new int[][] {{1, 1}, {1, 3}, {3, 3}, {3, 4}, {3, 6}, {5, 60000}}) {
            NoonWells x = new NoonWells();
            x.well(-1, 1000, 3, 0);
            x.drought(0, times[0], times[1]);
            int water = 0;
            for (int time = 1; time <= 9; time++) {
                water += times[0] <= time && time <= times[1] ? 0 : 3;
                x.tick(1);
                Check.due("Droughts: " + times[0] + " to " + times[1] + " at " + time,
                        x.wellOf(0, 4), water);
            }
        }
    }

    /** Droughts: two of one well that share a time, or follow one another, or have one between. */
    private static void droughtsMayOverlapAndTouch() {
        int[][] due = {{2, 4, 4, 5, 6}, {2, 3, 4, 5, 6}, {2, 3, 5, 5, 7}, {2, 5, 3, 4, 6},
            {4, 5, 2, 3, 6}, {2, 5, 2, 5, 6}};
        for (int[] row : due) {
            NoonWells x = new NoonWells();
            x.well(-1, 1000, 1, 0);
            x.well(0, 1000, 1, 0);
            x.drought(0, row[0], row[1]);
            x.drought(0, row[2], row[3]);
            x.tick(10);
            Check.due("Droughts: two of one well", x.wellOf(0, 4), row[4]);
            Check.due("Droughts: none of the other", x.wellOf(1, 4), 10);
        }
    }

    /** A tick: "Then the requests that wait are looked at", behind flow, noon and evening. */
    private static void requestsAreLookedAtBehindAll() {
        NoonWells noon = flowingOnceAt(4, new int[] {100, 2}, new int[] {10, 8});
        noon.request(0, 5);
        Check.due("Tick: ahead of noon", noon.tick(3), 0);
        Check.due("Tick: 2 by flow and 3 of noon", noon.tick(1), 1);
        Check.due("Tick: drawn from it", noon.wellOf(0, 4), 0);
        NoonWells more = flowingOnceAt(4, new int[] {100, 2}, new int[] {10, 8});
        more.request(0, 6);
        Check.due("Tick: 2 and 3 are not 6", more.tick(4), 0);
        NoonWells evening = lentAndDrawn();
        evening.request(1, 10);
        Check.due("Tick: ahead of the evening", evening.tick(1), 0);
        Check.due("Tick: 10 of the evening", evening.tick(1), 1);
        Check.due("Tick: drawn from it", evening.wellOf(1, 4), 0);
        NoonWells less = lentAndDrawn();
        less.request(1, 11);
        Check.due("Tick: 10 of the evening are not 11", less.tick(2), 0);
    }

    /** At the noon of 4, 10 were lent to a spring without burst; the other 10 are drawn. */
    private static NoonWells lentAndDrawn() {
        NoonWells x = new NoonWells();
        x.well(-1, 100, 0, 0);
        x.well(0, 20, 20, 0);
        x.set(0, 4);
        x.drought(1, 5, LAST_DROUGHT);
        x.tick(4);
        x.draw(1, 10);
        return x;
    }

    /** Three requests of a spring that gets 2 buckets a tick: 4, 3 and 1. */
    private static NoonWells row(int passing) {
        NoonWells x = new NoonWells();
        x.well(-1, 100, 2, 0);
        x.set(1, passing);
        x.request(0, 4);
        x.request(0, 3);
        x.request(0, 1);
        return x;
    }

    /** Requests: "up to one that is not; ... this one and all behind it wait on (0)". */
    private static void requestsAreDrawnUpToOneThatIsNotPossible() {
        NoonWells x = row(0);
        // 2 are short of 4; 4 are drawn; 2 are short of 3; 3 of 4 are drawn, then the last 1.
        int[] due = {0, 1, 0, 2, 0};
        int[] left = {3, 2, 2, 0, 0};
        int[] water = {2, 0, 2, 0, 2};
        for (int i = 0; i < due.length; i++) {
            Check.due("Requests: tick " + (i + 1), x.tick(1), due[i]);
            Check.due("Requests: wait at " + (i + 1), x.count(10), left[i]);
            Check.due("Requests: water at " + (i + 1), x.wellOf(0, 4), water[i]);
        }
        Check.due("Requests: drawn behind waiting", x.count(11), 3);
        Check.due("Requests: the same in one tick call", row(0).tick(5), 3);
    }

    /** Requests: "or it is passed over, and the next ones are tried (1)". */
    private static void requestsArePassedOver() {
        NoonWells x = row(1);
        // 2: 1 is drawn; 3: 3 is drawn; 2; 4 is drawn.
        int[] due = {1, 1, 0, 1, 0};
        int[] first = {4, 4, 4, Edges.BAD, Edges.BAD};
        int[] water = {1, 0, 2, 0, 2};
        for (int i = 0; i < due.length; i++) {
            Check.due("Requests: tick " + (i + 1), x.tick(1), due[i]);
            Check.due("Requests: first at " + (i + 1), x.requestAt(1, 1), first[i]);
            Check.due("Requests: water at " + (i + 1), x.wellOf(0, 4), water[i]);
        }
        Check.due("Requests: the same in one tick call", row(1).tick(5), 3);
    }

    /** Requests: "this one and all behind it wait on": with their wells, buckets and times. */
    private static void requestsThatWaitOnStayWhatTheyAre() {
        for (int passing = 0; passing <= 1; passing++) {
            NoonWells x = new NoonWells();
            x.well(-1, 100, 2, 0);
            x.well(0, 100, 1, 0);
            x.well(0, 100, 0, 0);
            x.set(1, passing);
            x.request(0, 4);
            x.request(1, 50);
            x.tick(1);
            x.request(0, 1);
            x.request(2, 60);
            // At 2 the first is drawn; 1 more of the spring is there at 3.
            int[][] due = passing == 0
                    ? new int[][] {{1, 50, 0}, {0, 1, 1}, {2, 60, 1}}
                    : new int[][] {{1, 50, 0}, {2, 60, 1}};
            Check.due("Requests: drawn, passing " + passing, x.tick(2), passing + 1);
            Check.due("Requests: wait on", x.count(10), due.length);
            for (int i = 0; i < due.length; i++) {
                for (int what = 0; what <= 2; what++) {
                    Check.due("Requests: place " + (i + 1) + ", " + what,
                            x.requestAt(i + 1, what), due[i][what]);
                }
            }
        }
    }
}
