/** The boundary cases of promises 1 to 6: a new object, well, drought, droughtOf, wellOf, aboveAt. */
public final class EdgesOfWellsTest {
    private static final int BAD = Edges.BAD;
    private static final int LIMIT = Edges.LIMIT;
    private static final int NONE = Edges.NONE;
    private static final int MIN = Edges.MIN;
    private static final int MAX = Edges.MAX;

    public static void main(String[] args) {
        newObjectHasNothing();
        newObjectKnowsNoWell();
        wellAboveOfTheFirst();
        wellAboveOfOthers();
        wellCapacity();
        wellFlow();
        wellBurst();
        wellHasNoWater();
        wellLimit();
        wellErrorsTogether();
        droughtWell();
        droughtFromAtFirst();
        droughtFromLater();
        droughtFromAtTheLastTime();
        droughtTo();
        droughtLimit();
        droughtErrorsTogether();
        droughtOfNumbers();
        droughtOfWhat();
        wellOfNumbers();
        wellOfWhat();
        wellOfAboveOfTheSpring();
        wellOfDroughtOfTheNextTick();
        wellOfFlowAndSpill();
        wellOfWellsBelow();
        aboveAtNumbers();
        aboveAtIndex();
        aboveAtTheLongestChain();
        Check.end();
    }

    private static Edges.State wells(int many) {
        return x -> {
            for (int i = 0; i < many; i++) {
                x.well(i - 1, 10, 1, 1);
            }
        };
    }

    /** Promise 1: "Creates a field without wells." Terms: time 0 at first, text initially empty. */
    private static void newObjectHasNothing() {
        for (int what = 0; what <= 14; what++) {
            Edges.unchanged("1: count(" + what + ") of a new object", Edges.NEW, countOf(what),
                    what == 12 ? 24 : 0);
        }
        Edges.unchanged("1: the day of a new object", Edges.NEW, x -> x.count(20), 24);
        Edges.unchanged("1: passing over of a new object", Edges.NEW, x -> x.count(21), 0);
        Edges.unchanged("1: undo of a new object", Edges.NEW, x -> x.undo(), Edges.NOT);
        Edges.unchanged("1: lenders of a new object", Edges.NEW, x -> x.lenders(), 0);
        Edges.unchanged("1: clearText of a new object", Edges.NEW, x -> x.clearText(), 0);
        Edges.unchanged("1: fault of a new object", Edges.NEW, x -> x.fault(0), NONE);
        Edges.changed("1: play of a new object", Edges.NEW, x -> x.play(), 0);
        Edges.changed("1: tick of a new object", Edges.NEW, x -> x.tick(1), 0);
    }

    private static Edges.Call countOf(int what) {
        return x -> x.count(what);
    }

    /** Promise 1: "Creates a field without wells." Each call of a well is one of none. */
    private static void newObjectKnowsNoWell() {
        for (int well : new int[] {MIN, -1, 0, 1, MAX}) {
            Edges.unchanged("1: drought", Edges.NEW, x -> x.drought(well, 1, 1), BAD);
            Edges.unchanged("1: droughtOf", Edges.NEW, x -> x.droughtOf(well, 0), BAD);
            Edges.unchanged("1: wellOf", Edges.NEW, x -> x.wellOf(well, 0), BAD);
            Edges.unchanged("1: aboveAt", Edges.NEW, x -> x.aboveAt(well, 0), BAD);
            Edges.unchanged("1: draw", Edges.NEW, x -> x.draw(well, 1), BAD);
            Edges.unchanged("1: request", Edges.NEW, x -> x.request(well, 1), BAD);
            Edges.unchanged("1: cancel", Edges.NEW, x -> x.cancel(well), BAD);
            Edges.unchanged("1: requestAt", Edges.NEW, x -> x.requestAt(well, 0), BAD);
            Edges.unchanged("1: able", Edges.NEW, x -> x.able(well), BAD);
            Edges.unchanged("1: gives", Edges.NEW, x -> x.gives(well, 1, well), BAD);
            Edges.unchanged("1: possibleIn", Edges.NEW, x -> x.possibleIn(well, 1), BAD);
            Edges.unchanged("1: waterIn", Edges.NEW, x -> x.waterIn(well, 0), BAD);
        }
    }

    /** Promise 2: "above must be -1 for the first well". */
    private static void wellAboveOfTheFirst() {
        Edges.changed("2: above -1", Edges.NEW, x -> x.well(-1, 10, 1, 1), 0);
        for (int above : new int[] {MIN, -2, 0, 1, MAX}) {
            Edges.unchanged("2: first, above " + above, Edges.NEW,
                    x -> x.well(above, 10, 1, 1), BAD);
        }
    }

    /** Promise 2: "and the number of a well for others"; Wells: "each other one has a lower one". */
    private static void wellAboveOfOthers() {
        for (int many : new int[] {1, 2, 3, 11}) {
            Edges.State some = wells(many);
            for (int above : new int[] {MIN, -2, -1, many, many + 1, 12, MAX}) {
                Edges.unchanged("2: " + many + " wells, above " + above, some,
                        x -> x.well(above, 10, 1, 1), BAD);
            }
            Edges.changed("2: " + many + " wells, the lowest above", some,
                    x -> x.well(0, 10, 1, 1), many);
            Edges.changed("2: " + many + " wells, the greatest above", some,
                    x -> x.well(many - 1, 10, 1, 1), many);
            NoonWells x = Edges.at(some);
            x.well(many - 1, 10, 1, 1);
            Check.due("2: above of well " + many, x.wellOf(many, 0), many - 1);
        }
    }

    /** Promise 2: "capacity: 1 to 1000". */
    private static void wellCapacity() {
        for (int wrong : new int[] {MIN, -1, 0, 1001, MAX}) {
            Edges.unchanged("2: capacity " + wrong, Edges.NEW, x -> x.well(-1, wrong, 1, 1), BAD);
            Edges.unchanged("2: capacity " + wrong, Edges.FEW, x -> x.well(0, wrong, 1, 1), BAD);
        }
        for (int right : new int[] {1, 2, 999, 1000}) {
            Edges.changed("2: capacity " + right, Edges.NEW, x -> x.well(-1, right, 1, 1), 0);
            Edges.changed("2: capacity " + right, Edges.FEW, x -> x.well(0, right, 1, 1), 3);
            NoonWells x = Edges.at(Edges.NEW);
            x.well(-1, right, 100, 1);
            x.tick(11);
            Check.due("2: capacity told", x.wellOf(0, 1), right);
            Check.due("2: capacity filled", x.wellOf(0, 4), right);
        }
    }

    /** Promise 2: "flow: 0 to 100". */
    private static void wellFlow() {
        for (int wrong : new int[] {MIN, -1, 101, MAX}) {
            Edges.unchanged("2: flow " + wrong, Edges.NEW, x -> x.well(-1, 10, wrong, 1), BAD);
            Edges.unchanged("2: flow " + wrong, Edges.FEW, x -> x.well(0, 10, wrong, 1), BAD);
        }
        for (int right : new int[] {0, 1, 99, 100}) {
            Edges.changed("2: flow " + right, Edges.NEW, x -> x.well(-1, 10, right, 1), 0);
            Edges.changed("2: flow " + right, Edges.FEW, x -> x.well(0, 10, right, 1), 3);
            NoonWells x = Edges.at(Edges.NEW);
            x.well(-1, 1000, right, 1);
            x.tick(3);
            Check.due("2: flow told", x.wellOf(0, 2), right);
            Check.due("2: flow flowed", x.wellOf(0, 4), 3 * right);
        }
    }

    /** Promise 2: "burst: 0 to 1000". */
    private static void wellBurst() {
        for (int wrong : new int[] {MIN, -1, 1001, MAX}) {
            Edges.unchanged("2: burst " + wrong, Edges.NEW, x -> x.well(-1, 10, 1, wrong), BAD);
            Edges.unchanged("2: burst " + wrong, Edges.FEW, x -> x.well(0, 10, 1, wrong), BAD);
        }
        for (int right : new int[] {0, 1, 999, 1000}) {
            Edges.changed("2: burst " + right, Edges.NEW, x -> x.well(-1, 10, 1, right), 0);
            Edges.changed("2: burst " + right, Edges.FEW, x -> x.well(0, 10, 1, right), 3);
            NoonWells x = Edges.at(Edges.NEW);
            x.well(-1, 1000, 100, right);
            x.well(0, 1, 0, 0);
            x.tick(10);
            Check.due("2: burst told", x.wellOf(0, 3), right);
            Check.due("2: burst lent", x.able(1), right);
        }
    }

    /** Promise 2: "Adds a well without water." Also where one was that is undone. */
    private static void wellHasNoWater() {
        NoonWells x = Edges.at(Edges.NEW);
        x.well(-1, 100, 0, 100);
        x.well(0, 40, 30, 9);
        x.tick(24);
        Check.due("2: a noon gave it a claim", x.wellOf(1, 5), 20);
        x.undo();
        x.undo();
        Check.due("2: well 1 again", x.well(0, 50, 20, 7), 1);
        int[] due = {0, 50, 20, 7, 0, 0, 0, 0, 0, 0, 0, 0, 0, 0};
        for (int what = 0; what <= 13; what++) {
            Check.due("2: without water, wellOf(1, " + what + ")", x.wellOf(1, what), due[what]);
        }
        Check.due("2: one below the spring", x.wellOf(0, 12), 1);
        Check.due("2: nothing to draw", x.able(1), 0);
    }

    /** Promise 2: "LIMIT_REACHED if there are 12." Wells: "at most 12 wells, numbered from 0". */
    private static void wellLimit() {
        for (int many = 0; many < 12; many++) {
            int above = many - 1;
            Edges.changed("2: well " + many, wells(many), x -> x.well(above, 10, 1, 1), many);
        }
        Edges.unchanged("2: well 12", wells(12), x -> x.well(0, 10, 1, 1), LIMIT);
        Edges.unchanged("2: well 12 below 11", wells(12), x -> x.well(11, 10, 1, 1), LIMIT);
        Edges.unchanged("2: well 12, smallest", Edges.FULL, x -> x.well(11, 1, 0, 0), LIMIT);
        Edges.unchanged("2: well 12, greatest", Edges.FULL, x -> x.well(0, 1000, 100, 1000),
                LIMIT);
        NoonWells x = Edges.at(wells(12));
        x.undo();
        Check.due("2: a place again", x.well(3, 10, 1, 1), 11);
        Check.due("2: none more", x.well(3, 10, 1, 1), LIMIT);
    }

    /** Errors: "INVALID_ARGUMENT is returned rather than" LIMIT_REACHED. */
    private static void wellErrorsTogether() {
        Edges.State full = wells(12);
        for (int above : new int[] {MIN, -2, -1, 12, 13, MAX}) {
            Edges.unchanged("2: full, above " + above, full, x -> x.well(above, 10, 1, 1), BAD);
        }
        Edges.unchanged("2: full, capacity 0", full, x -> x.well(0, 0, 1, 1), BAD);
        Edges.unchanged("2: full, capacity 1001", full, x -> x.well(0, 1001, 1, 1), BAD);
        Edges.unchanged("2: full, flow -1", full, x -> x.well(0, 10, -1, 1), BAD);
        Edges.unchanged("2: full, flow 101", full, x -> x.well(0, 10, 101, 1), BAD);
        Edges.unchanged("2: full, burst -1", full, x -> x.well(0, 10, 1, -1), BAD);
        Edges.unchanged("2: full, burst 1001", full, x -> x.well(0, 10, 1, 1001), BAD);
    }

    /** Promise 3: "well: number of the well". */
    private static void droughtWell() {
        for (int well : new int[] {MIN, -1, 3, 12, MAX}) {
            Edges.unchanged("3: well " + well, Edges.FEW, x -> x.drought(well, 10, 10), BAD);
        }
        Edges.changed("3: well 0", Edges.FEW, x -> x.drought(0, 10, 10), 2);
        Edges.changed("3: well 2", Edges.FEW, x -> x.drought(2, 10, 10), 2);
        Edges.changed("3: well 11", wells(12), x -> x.drought(11, 10, 10), 0);
    }

    /** Promise 3: "from: from the present time + 1 to 60000", at the time 0. */
    private static void droughtFromAtFirst() {
        for (int from : new int[] {MIN, -1, 0}) {
            Edges.unchanged("3: from " + from, wells(1), x -> x.drought(0, from, 9), BAD);
        }
        for (int from : new int[] {1, 2, 59999, 60000}) {
            Edges.changed("3: from " + from, wells(1), x -> x.drought(0, from, 60000), 0);
        }
        for (int from : new int[] {60001, 60002, MAX}) {
            Edges.unchanged("3: from and to " + from, wells(1), x -> x.drought(0, from, from),
                    BAD);
            Edges.unchanged("3: from " + from, wells(1), x -> x.drought(0, from, 60000), BAD);
        }
    }

    /** Promise 3: "from the present time + 1", at the time 9. */
    private static void droughtFromLater() {
        for (int from : new int[] {MIN, -1, 0, 1, 8, 9}) {
            Edges.unchanged("3: from " + from, Edges.FEW, x -> x.drought(0, from, 20), BAD);
        }
        for (int from : new int[] {10, 11}) {
            Edges.changed("3: from " + from, Edges.FEW, x -> x.drought(0, from, 20), 2);
        }
    }

    /** Promise 3: "from the present time + 1 to 60000", at the time 50000. */
    private static void droughtFromAtTheLastTime() {
        Edges.unchanged("3: from 49999", Edges.LAST, x -> x.drought(0, 49999, 60000), BAD);
        Edges.unchanged("3: from 50000", Edges.LAST, x -> x.drought(0, 50000, 60000), BAD);
        Edges.changed("3: from 50001", Edges.LAST, x -> x.drought(0, 50001, 60000), 0);
        Edges.changed("3: from 60000", Edges.LAST, x -> x.drought(1, 60000, 60000), 0);
        Edges.unchanged("3: from 60001", Edges.LAST, x -> x.drought(0, 60001, 60001), BAD);
    }

    /** Promise 3: "to: from from to 60000". */
    private static void droughtTo() {
        for (int to : new int[] {MIN, -1, 0, 9, 13, 14}) {
            Edges.unchanged("3: 15 to " + to, Edges.FEW, x -> x.drought(2, 15, to), BAD);
        }
        for (int to : new int[] {15, 16, 59999, 60000}) {
            Edges.changed("3: 15 to " + to, Edges.FEW, x -> x.drought(2, 15, to), 2);
            NoonWells x = Edges.at(Edges.FEW);
            x.drought(2, 15, to);
            Check.due("3: its last time", x.droughtOf(2, 2), to);
        }
        for (int to : new int[] {60001, 60002, MAX}) {
            Edges.unchanged("3: 15 to " + to, Edges.FEW, x -> x.drought(2, 15, to), BAD);
        }
        Edges.unchanged("3: 60000 to 59999", Edges.FEW, x -> x.drought(2, 60000, 59999), BAD);
        Edges.changed("3: 60000 to 60000", Edges.FEW, x -> x.drought(2, 60000, 60000), 2);
        Edges.unchanged("3: 60000 to 60001", Edges.FEW, x -> x.drought(2, 60000, 60001), BAD);
    }

    private static Edges.State droughts(int many) {
        return x -> {
            x.well(-1, 10, 1, 1);
            for (int i = 0; i < many; i++) {
                x.drought(0, 1, 1);
            }
        };
    }

    /** Promise 3: "LIMIT_REACHED if there are 20." Droughts: "There are at most 20 droughts." */
    private static void droughtLimit() {
        for (int many : new int[] {0, 1, 18, 19}) {
            Edges.changed("3: drought " + many, droughts(many), x -> x.drought(0, 1, 1), many);
        }
        Edges.unchanged("3: drought 20", droughts(20), x -> x.drought(0, 1, 1), LIMIT);
        Edges.unchanged("3: drought 20", droughts(20), x -> x.drought(0, 60000, 60000), LIMIT);
        Edges.unchanged("3: drought 20", Edges.FULL, x -> x.drought(11, 9, 60000), LIMIT);
        NoonWells x = Edges.at(droughts(20));
        x.tick(2);
        Check.due("3: those that are over count on", x.drought(0, 3, 3), LIMIT);
        x.undo();
        x.undo();
        Check.due("3: a place again", x.drought(0, 1, 1), 19);
    }

    /** Errors: "INVALID_ARGUMENT is returned rather than" LIMIT_REACHED. */
    private static void droughtErrorsTogether() {
        Edges.unchanged("3: full, well -1", Edges.FULL, x -> x.drought(-1, 9, 9), BAD);
        Edges.unchanged("3: full, well 12", Edges.FULL, x -> x.drought(12, 9, 9), BAD);
        Edges.unchanged("3: full, from 8", Edges.FULL, x -> x.drought(0, 8, 9), BAD);
        Edges.unchanged("3: full, from 9", Edges.FULL, x -> x.drought(0, 9, 9), LIMIT);
        Edges.unchanged("3: full, to ahead of from", Edges.FULL, x -> x.drought(0, 9, 8), BAD);
        Edges.unchanged("3: full, from 60001", Edges.FULL, x -> x.drought(0, 60001, 60001), BAD);
        Edges.unchanged("3: full, to 60001", Edges.FULL, x -> x.drought(0, 9, 60001), BAD);
    }

    /** Promise 4: "drought: number of the drought"; "If there is no ... drought with a number". */
    private static void droughtOfNumbers() {
        Edges.unchanged("4: none, drought 0", wells(1), x -> x.droughtOf(0, 0), BAD);
        for (int drought : new int[] {MIN, -1, 2, 3, 20, MAX}) {
            for (int what = 0; what <= 2; what++) {
                int told = what;
                Edges.unchanged("4: drought " + drought + " of 2", Edges.FEW,
                        x -> x.droughtOf(drought, told), BAD);
            }
        }
        Edges.unchanged("4: drought 0 of 2", Edges.FEW, x -> x.droughtOf(0, 0), 1);
        Edges.unchanged("4: drought 1 of 2", Edges.FEW, x -> x.droughtOf(1, 0), 0);
        Edges.unchanged("4: drought 18 of 20", Edges.FULL, x -> x.droughtOf(18, 0), 6);
        Edges.unchanged("4: drought 19 of 20", Edges.FULL, x -> x.droughtOf(19, 0), 7);
        Edges.unchanged("4: drought 20 of 20", Edges.FULL, x -> x.droughtOf(20, 0), BAD);
    }

    /** Promise 4: "what: 0: the well; 1: its first time; 2: its last time". */
    private static void droughtOfWhat() {
        for (int what : new int[] {MIN, -1, 3, 4, MAX}) {
            Edges.unchanged("4: what " + what, Edges.FEW, x -> x.droughtOf(1, what), BAD);
            Edges.unchanged("4: what " + what, Edges.FULL, x -> x.droughtOf(19, what), BAD);
        }
        Edges.unchanged("4: what 0", Edges.FEW, x -> x.droughtOf(1, 0), 0);
        Edges.unchanged("4: what 1", Edges.FEW, x -> x.droughtOf(1, 1), 12);
        Edges.unchanged("4: what 2", Edges.FEW, x -> x.droughtOf(1, 2), 60000);
    }

    /** Promise 5: "well: number of the well". */
    private static void wellOfNumbers() {
        for (int well : new int[] {MIN, -1, 3, 4, 12, MAX}) {
            for (int what = 0; what <= 13; what++) {
                int told = what;
                Edges.unchanged("5: well " + well + " of 3", Edges.FEW,
                        x -> x.wellOf(well, told), BAD);
            }
        }
        Edges.unchanged("5: well 2 of 3", Edges.FEW, x -> x.wellOf(2, 1), 30);
        Edges.unchanged("5: well 11 of 12", Edges.FULL, x -> x.wellOf(11, 1), 31);
        Edges.unchanged("5: well 12 of 12", Edges.FULL, x -> x.wellOf(12, 1), BAD);
    }

    /** Promise 5: "what: 0 ... 13". */
    private static void wellOfWhat() {
        for (int what : new int[] {MIN, -2, -1, 14, 15, MAX}) {
            Edges.unchanged("5: what " + what, Edges.FEW, x -> x.wellOf(0, what), BAD);
            Edges.unchanged("5: what " + what, Edges.FULL, x -> x.wellOf(11, what), BAD);
        }
        // Well 2 has 30 of 32 by flow at the noon of 8, lends 15 of them, and gets 4 more at 9.
        int[] due = {0, 30, 4, 2, 19, 15, 34, 2, 0, 0, 0, 0, 0, 0};
        for (int what = 0; what <= 13; what++) {
            int told = what;
            Edges.unchanged("5: what " + what, Edges.FEW, x -> x.wellOf(2, told), due[what]);
        }
    }

    /** Promise 5: "NOT_FOUND for 0 of the spring." */
    private static void wellOfAboveOfTheSpring() {
        for (Edges.State state : new Edges.State[] {wells(1), Edges.FEW, Edges.FULL, Edges.LAST}) {
            Edges.unchanged("5: 0 of the spring", state, x -> x.wellOf(0, 0), NONE);
        }
        Edges.unchanged("5: 0 of well 1", Edges.FEW, x -> x.wellOf(1, 0), 0);
        Edges.unchanged("5: -1 of the spring", Edges.FEW, x -> x.wellOf(0, -1), BAD);
        Edges.unchanged("5: 1 of the spring", Edges.FEW, x -> x.wellOf(0, 1), 100);
    }

    /** Promise 5: "13: 1 if it would get no flow in the next tick for a drought, otherwise 0". */
    private static void wellOfDroughtOfTheNextTick() {
        for (int[] times : new int[][] {{1, 1}, {2, 2}, {4, 6}, {1, 60000}}) {
            NoonWells x = new NoonWells();
            x.well(-1, 1000, 1, 1);
            x.well(0, 1000, 1, 1);
            x.drought(1, times[0], times[1]);
            for (int time = 0; time < 9; time++) {
                boolean dry = times[0] <= time + 1 && time + 1 <= times[1];
                String at = "5: at " + time + ", a drought from " + times[0] + " to " + times[1];
                Check.due(at, x.wellOf(1, 13), dry ? 1 : 0);
                Check.due(at + " of another well", x.wellOf(0, 13), 0);
                int water = x.wellOf(1, 4);
                x.tick(1);
                Check.due(at + ": it got", x.wellOf(1, 4) - water, dry ? 0 : 1);
            }
        }
        NoonWells still = new NoonWells();
        still.well(-1, 10, 0, 0);
        Check.due("5: no flow, but no drought", still.wellOf(0, 13), 0);
        NoonWells last = Edges.at(Edges.LAST);
        last.drought(0, 50002, 60000);
        last.drought(1, 50001, 50001);
        Check.due("5: at 50000, from 50002 on", last.wellOf(0, 13), 0);
        Check.due("5: at 50000, from 50001 on", last.wellOf(1, 13), 1);
    }

    /** Promise 5: "6: what it got by its flow so far, spilled water left out; 7: what was spilled". */
    private static void wellOfFlowAndSpill() {
        NoonWells x = new NoonWells();
        x.well(-1, 10, 4, 0);
        int[][] due = {{0, 0}, {4, 0}, {8, 0}, {10, 2}, {10, 6}, {10, 10}};
        for (int time = 0; time < due.length; time++) {
            Check.due("5: 6 at " + time, x.wellOf(0, 6), due[time][0]);
            Check.due("5: 7 at " + time, x.wellOf(0, 7), due[time][1]);
            x.tick(1);
        }
        NoonWells y = new NoonWells();
        y.well(-1, 8, 4, 0);
        y.tick(2);
        Check.due("5: full without spill, 6", y.wellOf(0, 6), 8);
        Check.due("5: full without spill, 7", y.wellOf(0, 7), 0);
        y.tick(1);
        Check.due("5: all is spilled, 6", y.wellOf(0, 6), 8);
        Check.due("5: all is spilled, 7", y.wellOf(0, 7), 4);
    }

    /** Promise 5: "12: how many wells are right below it". */
    private static void wellOfWellsBelow() {
        NoonWells x = new NoonWells();
        x.well(-1, 10, 1, 1);
        for (int i = 1; i < 12; i++) {
            Check.due("5: below the spring", x.wellOf(0, 12), i - 1);
            x.well(0, 10, 1, 1);
        }
        Check.due("5: eleven below", x.wellOf(0, 12), 11);
        Check.due("5: none below", x.wellOf(11, 12), 0);
        Check.due("5: refused, well", x.well(0, 10, 1, 1), LIMIT);
        Check.due("5: still eleven below", x.wellOf(0, 12), 11);
        NoonWells chain = Edges.at(wells(12));
        for (int i = 0; i < 12; i++) {
            Check.due("5: right below in a chain", chain.wellOf(i, 12), i < 11 ? 1 : 0);
        }
    }

    /** Promise 6: "INVALID_ARGUMENT if there is no such well". */
    private static void aboveAtNumbers() {
        for (int well : new int[] {MIN, -1, 3, 4, 12, MAX}) {
            for (int index : new int[] {MIN, -1, 0, 1, 2, MAX}) {
                Edges.unchanged("6: well " + well + " of 3, " + index, Edges.FEW,
                        x -> x.aboveAt(well, index), BAD);
            }
        }
        Edges.unchanged("6: well 2 of 3", Edges.FEW, x -> x.aboveAt(2, 0), 0);
        Edges.unchanged("6: well 11 of 12", Edges.FULL, x -> x.aboveAt(11, 0), 5);
        Edges.unchanged("6: well 12 of 12", Edges.FULL, x -> x.aboveAt(12, 0), BAD);
    }

    /** Promise 6: "or index is negative; NOT_FOUND if there are not so many." */
    private static void aboveAtIndex() {
        // The wells above 11 are 5, 2 and 0.
        int[] above = {5, 2, 0};
        for (int index : new int[] {MIN, -2, -1}) {
            Edges.unchanged("6: 11, " + index, Edges.FULL, x -> x.aboveAt(11, index), BAD);
            Edges.unchanged("6: spring, " + index, Edges.FULL, x -> x.aboveAt(0, index), BAD);
        }
        for (int index = 0; index < 3; index++) {
            int told = index;
            Edges.unchanged("6: 11, " + index, Edges.FULL, x -> x.aboveAt(11, told), above[index]);
        }
        for (int index : new int[] {3, 4, 11, 12, 13, MAX}) {
            Edges.unchanged("6: 11, " + index, Edges.FULL, x -> x.aboveAt(11, index), NONE);
        }
        for (int index : new int[] {0, 1, 12, MAX}) {
            Edges.unchanged("6: spring, " + index, Edges.FULL, x -> x.aboveAt(0, index), NONE);
        }
    }

    /** Promise 6: "0 for the one above it, 1 for the one above that, and so on", up to eleven. */
    private static void aboveAtTheLongestChain() {
        NoonWells x = Edges.at(wells(12));
        for (int well = 0; well < 12; well++) {
            for (int index = 0; index < 13; index++) {
                Check.due("6: " + well + ", " + index, x.aboveAt(well, index),
                        index < well ? well - 1 - index : NONE);
            }
        }
    }
}
