/** Promises 7 to 12: draw, request, cancel, requestAt, tick, set. */
public final class DrawsTest {
    private static final int BAD = -1;
    private static final int NOT = -2;
    private static final int LIMIT = -3;

    public static void main(String[] args) {
        drawTakesFromItselfThenAbove();
        drawIsBoundByTheGiversBurst();
        drawPassesByWellsBeside();
        drawRangesAndErrors();
        requestIsDrawnOrWaits();
        requestLimit();
        cancelClosesTheRow();
        cancelInAFullRow();
        requestAtTells();
        rowStopsAtTheFirstThatIsNotPossible();
        rowPassesOver();
        requestsComeBehindNoonAndEvening();
        tickRanges();
        tickTimeLimit();
        droughtsStopFlow();
        noonGoesFromTheGreatestDown();
        noonLendsNoMoreThanHasRoom();
        noonLendsMoreThanHalfRoundedDown();
        eveningGoesFromTheLowestUp();
        eveningPaysByNumbers();
        eveningOfAnOddDay();
        setRangesAndAnswers();
        Check.end();
    }

    /** Three wells in a chain with 30, 20 and 10 buckets of water. */
    private static NoonWells chain() {
        NoonWells x = new NoonWells();
        x.well(-1, 300, 30, 12);
        x.well(0, 200, 20, 7);
        x.well(1, 100, 10, 3);
        x.tick(1);
        return x;
    }

    private static void drawTakesFromItselfThenAbove() {
        NoonWells x = chain();
        Check.due("itself alone", x.draw(2, 6), 0);
        Check.due("its water", x.wellOf(2, 4), 4);
        Check.due("4 and 7 and 1", x.draw(2, 12), 8);
        Check.due("well 2", x.wellOf(2, 4), 0);
        Check.due("well 1", x.wellOf(1, 4), 13);
        Check.due("well 0", x.wellOf(0, 4), 29);
        Check.due("2 gave itself", x.wellOf(2, 8), 10);
        Check.due("1 gave others", x.wellOf(1, 9), 7);
        Check.due("0 gave others", x.wellOf(0, 9), 1);
        Check.due("drawn", x.count(6), 18);
        Check.due("the spring has none above", x.draw(0, 29), 0);
        Check.due("0 gave itself", x.wellOf(0, 8), 29);
        Check.due("drawn then", x.count(6), 47);
    }

    private static void drawIsBoundByTheGiversBurst() {
        NoonWells x = chain();
        Check.due("more than 10 + 7 + 12", x.draw(2, 30), NOT);
        Check.due("an error changes nothing", x.count(3), 60);
        Check.due("an error counts nothing", x.count(6), 0);
        Check.due("all of it", x.draw(2, 29), 19);
        Check.due("the burst holds for each draw anew", x.draw(2, 19), 19);
        Check.due("what is left above", x.wellOf(1, 4), 6);
        Check.due("and above that", x.wellOf(0, 4), 6);
        Check.due("its own burst does not bind it", x.draw(0, 7), NOT);
        Check.due("but its water does", x.draw(0, 6), 0);
    }

    private static void drawPassesByWellsBeside() {
        NoonWells x = new NoonWells();
        x.well(-1, 10, 1, 1000);
        x.well(0, 10, 10, 1000);
        x.well(0, 10, 1, 1000);
        x.tick(1);
        Check.due("1 is not above 2", x.draw(2, 3), NOT);
        Check.due("0 is", x.draw(2, 2), 1);
        Check.due("2 and 0 have none, 1 is beside", x.draw(2, 1), NOT);
        Check.due("wells below give none", x.draw(0, 1), NOT);
    }

    private static void drawRangesAndErrors() {
        NoonWells x = chain();
        Check.due("0 buckets", x.draw(2, 0), BAD);
        Check.due("-1 buckets", x.draw(2, -1), BAD);
        Check.due("1000 buckets", x.draw(2, 1000), BAD);
        Check.due("999 buckets", x.draw(2, 999), NOT);
        Check.due("well 3", x.draw(3, 1), BAD);
        Check.due("well -1", x.draw(-1, 1), BAD);
        Check.due("no change of them", x.count(13), 4);
        NoonWells great = new NoonWells();
        great.well(-1, 1000, 100, 0);
        great.tick(10);
        Check.due("999 of 1000", great.draw(0, 999), 0);
        Check.due("1 of 1000", great.draw(0, 1), 0);
        Check.due("0 of 1000", great.draw(0, 1), NOT);
    }

    private static void requestIsDrawnOrWaits() {
        NoonWells x = chain();
        Check.due("possible", x.request(2, 29), 0);
        Check.due("drawn", x.count(6), 29);
        Check.due("not behind waiting", x.count(11), 0);
        Check.due("not possible", x.request(2, 500), 1);
        Check.due("possible, but one waits", x.request(0, 1), 2);
        Check.due("nothing drawn", x.count(6), 29);
        Check.due("two wait", x.count(10), 2);
        Check.due("a draw does not wait", x.draw(0, 1), 0);
        Check.due("0 buckets", x.request(0, 0), BAD);
        Check.due("1000 buckets", x.request(0, 1000), BAD);
        Check.due("999 buckets", x.request(0, 999), 3);
        Check.due("well 3", x.request(3, 1), BAD);
        Check.due("well -1", x.request(-1, 1), BAD);
    }

    private static void requestLimit() {
        NoonWells x = chain();
        for (int place = 1; place <= 8; place++) {
            Check.due("request " + place, x.request(1, 900 + place), place);
        }
        Check.due("ninth", x.request(1, 1), LIMIT);
        Check.due("ninth, 0 buckets", x.request(1, 0), BAD);
        Check.due("ninth, wrong well", x.request(3, 1), BAD);
        Check.due("eight wait", x.count(10), 8);
        Check.due("the last one stays", x.requestAt(8, 1), 908);
    }

    private static void cancelClosesTheRow() {
        NoonWells x = chain();
        Check.due("none waits", x.cancel(1), BAD);
        x.request(0, 901);
        x.tick(1);
        x.request(1, 902);
        x.tick(1);
        x.request(2, 903);
        Check.due("place 0", x.cancel(0), BAD);
        Check.due("place 4", x.cancel(4), BAD);
        Check.due("place min", x.cancel(Integer.MIN_VALUE), BAD);
        Check.due("place max", x.cancel(Integer.MAX_VALUE), BAD);
        Check.due("place 2", x.cancel(2), 902);
        Check.due("two left", x.count(10), 2);
        Check.due("first stays", x.requestAt(1, 1), 901);
        Check.due("third moved: well", x.requestAt(2, 0), 2);
        Check.due("third moved: buckets", x.requestAt(2, 1), 903);
        Check.due("third moved: time", x.requestAt(2, 2), 3);
        Check.due("place 3 is free", x.requestAt(3, 0), BAD);
        Check.due("the row is not looked at", x.request(0, 1), 3);
        Check.due("first", x.cancel(1), 901);
        Check.due("first then", x.requestAt(1, 1), 903);
        Check.due("last", x.cancel(2), 1);
        Check.due("only", x.cancel(1), 903);
        Check.due("row is empty", x.count(10), 0);
        Check.due("drawn at once again", x.request(0, 1), 0);
    }

    private static void cancelInAFullRow() {
        NoonWells x = chain();
        for (int place = 1; place <= 8; place++) {
            x.request(1, 900 + place);
        }
        Check.due("first", x.cancel(1), 901);
        Check.due("last", x.cancel(7), 908);
        Check.due("place 7", x.cancel(7), BAD);
        for (int place = 1; place <= 6; place++) {
            Check.due("place " + place, x.requestAt(place, 1), 901 + place);
        }
        Check.due("there is a place again", x.request(0, 999), 7);
        Check.due("and another one", x.request(0, 999), 8);
        Check.due("no more", x.request(0, 999), LIMIT);
    }

    private static void requestAtTells() {
        NoonWells x = chain();
        x.tick(4);
        x.request(1, 999);
        x.tick(2);
        x.request(2, 5);
        Check.due("well", x.requestAt(1, 0), 1);
        Check.due("buckets", x.requestAt(1, 1), 999);
        Check.due("time", x.requestAt(1, 2), 5);
        Check.due("second: well", x.requestAt(2, 0), 2);
        Check.due("second: buckets", x.requestAt(2, 1), 5);
        Check.due("second: time", x.requestAt(2, 2), 7);
        Check.due("place 0", x.requestAt(0, 0), BAD);
        Check.due("place 3", x.requestAt(3, 0), BAD);
        Check.due("place -1", x.requestAt(-1, 0), BAD);
        Check.due("what -1", x.requestAt(1, -1), BAD);
        Check.due("what 3", x.requestAt(1, 3), BAD);
    }

    private static NoonWells slow() {
        NoonWells x = new NoonWells();
        x.well(-1, 100, 2, 0);
        x.well(0, 100, 1, 0);
        return x;
    }

    private static void rowStopsAtTheFirstThatIsNotPossible() {
        NoonWells x = slow();
        x.request(0, 2);
        x.request(1, 3);
        x.request(0, 1);
        Check.due("tick 1: the first", x.tick(1), 1);
        Check.due("the next is first", x.requestAt(1, 1), 3);
        Check.due("tick 2: none", x.tick(1), 0);
        Check.due("the last one waits on", x.requestAt(2, 1), 1);
        Check.due("tick 3: both", x.tick(1), 2);
        Check.due("none waits", x.count(10), 0);
        Check.due("drawn behind waiting", x.count(11), 3);
        Check.due("water", x.wellOf(0, 4), 6 - 3);
        Check.due("answers of many ticks are summed", sumOfSlowTicks(), 3);
    }

    private static int sumOfSlowTicks() {
        NoonWells x = slow();
        x.request(0, 2);
        x.request(1, 3);
        x.request(0, 1);
        return x.tick(9);
    }

    private static void rowPassesOver() {
        NoonWells x = slow();
        x.set(1, 1);
        x.request(1, 3);
        x.request(0, 2);
        x.request(1, 4);
        x.request(1, 1);
        Check.due("tick 1: the second and the fourth", x.tick(1), 2);
        Check.due("passed over", x.requestAt(1, 1), 3);
        Check.due("passed over, too", x.requestAt(2, 1), 4);
        Check.due("two wait", x.count(10), 2);
        Check.due("drawn behind waiting", x.count(11), 2);
        Check.due("possible, but others wait", x.request(0, 1), 3);
        x.set(1, 0);
        Check.due("no more passing over", x.tick(1), 0);
        Check.due("tick 4: the first; the next is not possible", x.tick(2), 1);
        x.set(1, 1);
        Check.due("passing over again", x.tick(1), 1);
        Check.due("the 4 wait", x.requestAt(1, 1), 4);
        Check.due("made at", x.requestAt(1, 2), 0);
    }

    /** The day is 4: evening at 2, noon at 4, evening at 6. */
    private static void requestsComeBehindNoonAndEvening() {
        NoonWells x = new NoonWells();
        x.well(-1, 100, 0, 0);
        x.well(0, 10, 3, 0);
        x.set(0, 4);
        x.tick(3);
        Check.due("waits for what noon brings", x.request(0, 5), 1);
        Check.due("noon", x.tick(1), 1);
        Check.due("water of 1", x.wellOf(1, 4), 5);
        x.draw(1, 5);
        x.drought(1, 5, 100);
        x.tick(3);
        Check.due("nothing to pay back", x.wellOf(1, 4), 0);
        NoonWells y = new NoonWells();
        y.well(-1, 100, 0, 0);
        y.well(0, 10, 3, 0);
        y.set(0, 4);
        y.tick(4);
        y.drought(1, 5, 100);
        y.draw(1, 5);
        Check.due("waits for what the evening brings", y.request(1, 5), 1);
        Check.due("tick 5", y.tick(1), 0);
        Check.due("evening", y.tick(1), 1);
        Check.due("paid back and drawn", y.wellOf(1, 11), 5);
        Check.due("drawn", y.wellOf(1, 4), 0);
    }

    private static void tickRanges() {
        NoonWells x = slow();
        Check.due("0 ticks", x.tick(0), BAD);
        Check.due("-1 ticks", x.tick(-1), BAD);
        Check.due("201 ticks", x.tick(201), BAD);
        Check.due("max ticks", x.tick(Integer.MAX_VALUE), BAD);
        Check.due("time", x.count(2), 0);
        Check.due("200 ticks", x.tick(200), 0);
        Check.due("1 tick", x.tick(1), 0);
        Check.due("time", x.count(2), 201);
    }

    private static void tickTimeLimit() {
        NoonWells x = slow();
        for (int i = 0; i < 249; i++) {
            x.tick(200);
        }
        Check.due("time", x.count(2), 49800);
        x.tick(199);
        Check.due("2 above 49999", x.tick(2), LIMIT);
        Check.due("201 above 49999", x.tick(201), BAD);
        Check.due("errors change nothing", x.count(2), 49999);
        Check.due("up to 50000", x.tick(1), 0);
        Check.due("above 50000", x.tick(1), LIMIT);
        Check.due("0 above 50000", x.tick(0), BAD);
        Check.due("time at the end", x.count(2), 50000);
        Check.due("a drought behind the end", x.drought(1, 50001, 50010), 0);
        Check.due("it is the next tick", x.wellOf(1, 13), 1);
        Check.due("a forecast goes on behind the end", x.waterIn(1, 300), 100);
        x.draw(1, x.wellOf(1, 4));
        Check.due("a forecast of 12 ticks", x.waterIn(1, 12), 2);
        Check.due("when it is possible", x.possibleIn(1, 1), 11);
    }

    private static void droughtsStopFlow() {
        NoonWells x = new NoonWells();
        x.well(-1, 10, 4, 0);
        x.drought(0, 2, 3);
        x.drought(0, 3, 5);
        x.tick(6);
        Check.due("flow at 1 and 6", x.wellOf(0, 4), 8);
        Check.due("got", x.wellOf(0, 6), 8);
        Check.due("a drought spills nothing", x.wellOf(0, 7), 0);
        x.tick(1);
        Check.due("2 of 4 have room", x.wellOf(0, 6), 10);
        Check.due("2 of 4 are spilled", x.wellOf(0, 7), 2);
        x.drought(0, 8, 8);
        x.tick(1);
        Check.due("full and dry spills nothing", x.wellOf(0, 7), 2);
        x.tick(1);
        Check.due("full spills all", x.wellOf(0, 7), 6);
    }

    /** What 2 lends to 1 is lent on to 0 at the same noon. */
    private static void noonGoesFromTheGreatestDown() {
        NoonWells x = new NoonWells();
        x.well(-1, 100, 0, 0);
        x.well(0, 20, 2, 0);
        x.well(1, 10, 3, 0);
        x.set(0, 4);
        x.tick(4);
        // At 4: well 1 has 8, well 2 has 10; 2 lends 5, then 1 has 13 and lends 3.
        Check.due("well 2", x.wellOf(2, 4), 5);
        Check.due("well 1", x.wellOf(1, 4), 10);
        Check.due("well 0", x.wellOf(0, 4), 3);
        Check.due("claim of 2", x.wellOf(2, 5), 5);
        Check.due("claim of 1", x.wellOf(1, 5), 3);
        Check.due("1 got", x.wellOf(1, 10), 5);
        Check.due("0 got", x.wellOf(0, 10), 3);
        Check.due("lent", x.count(7), 8);
        Check.due("claims", x.count(9), 8);
    }

    private static void noonLendsNoMoreThanHasRoom() {
        NoonWells x = new NoonWells();
        x.well(-1, 10, 1, 0);
        x.well(0, 20, 20, 0);
        x.well(0, 20, 20, 0);
        x.set(0, 4);
        x.tick(4);
        // The spring has 4 of 10: the greatest number lends 6, then there is no room.
        Check.due("spring", x.wellOf(0, 4), 10);
        Check.due("2 lends first", x.wellOf(2, 5), 6);
        Check.due("1 finds no room", x.wellOf(1, 5), 0);
        Check.due("2", x.wellOf(2, 4), 14);
        Check.due("1", x.wellOf(1, 4), 20);
    }

    private static void noonLendsMoreThanHalfRoundedDown() {
        NoonWells x = new NoonWells();
        x.well(-1, 1000, 0, 0);
        x.well(0, 7, 1, 0);
        x.well(0, 1, 1, 0);
        x.well(0, 9, 1, 0);
        x.set(0, 4);
        x.tick(4);
        Check.due("4 of 7: 1 above 3", x.wellOf(1, 5), 1);
        Check.due("1 of 1: 1 above 0", x.wellOf(2, 5), 1);
        Check.due("4 of 9: none above 4", x.wellOf(3, 5), 0);
        Check.due("time mod day is 0 again", x.tick(4), 0);
        Check.due("lent twice or paid and lent", x.wellOf(0, 10) - x.count(8), x.count(9));
    }

    /** What 0 pays back to 1 is paid on to 2 in the same evening. */
    private static void eveningGoesFromTheLowestUp() {
        NoonWells x = new NoonWells();
        x.well(-1, 100, 0, 0);
        x.well(0, 20, 2, 0);
        x.well(1, 10, 3, 0);
        x.set(0, 4);
        x.tick(4);
        x.drought(1, 5, 100);
        x.drought(2, 5, 100);
        x.draw(1, 10);
        x.draw(2, 5);
        x.tick(2);
        // 0 has 3 and pays 3 to 1, which pays them on to 2, whose claim is 5.
        Check.due("well 0", x.wellOf(0, 4), 0);
        Check.due("well 1", x.wellOf(1, 4), 0);
        Check.due("well 2", x.wellOf(2, 4), 3);
        Check.due("claim of 1", x.wellOf(1, 5), 0);
        Check.due("claim of 2", x.wellOf(2, 5), 2);
        Check.due("1 got back", x.wellOf(1, 11), 3);
        Check.due("2 got back", x.wellOf(2, 11), 3);
        Check.due("paid back", x.count(8), 6);
        Check.due("claims", x.count(9), 2);
        Check.due("next evening has nothing to pay", x.tick(4), 0);
        Check.due("still", x.count(8), 6);
    }

    private static void eveningPaysByNumbers() {
        NoonWells x = new NoonWells();
        x.well(-1, 100, 0, 0);
        x.well(0, 10, 10, 0);
        x.well(0, 10, 10, 0);
        x.set(0, 4);
        x.tick(4);
        x.drought(1, 5, 100);
        x.drought(2, 5, 100);
        x.draw(1, 5);
        x.draw(2, 5);
        x.draw(0, 3);
        x.tick(2);
        // 0 has 7: 5 for well 1, then the 2 that are left for well 2.
        Check.due("well 1", x.wellOf(1, 4), 5);
        Check.due("well 2", x.wellOf(2, 4), 2);
        Check.due("claim of 1", x.wellOf(1, 5), 0);
        Check.due("claim of 2", x.wellOf(2, 5), 3);
    }

    /** The day is 5: evening at 2, noon at 5, evening at 7. */
    private static void eveningOfAnOddDay() {
        NoonWells x = new NoonWells();
        x.well(-1, 100, 0, 0);
        x.well(0, 10, 10, 0);
        x.set(0, 5);
        x.tick(4);
        Check.due("no noon at 4", x.count(7), 0);
        x.tick(1);
        Check.due("noon at 5", x.count(7), 5);
        x.drought(1, 6, 100);
        x.tick(1);
        Check.due("no evening at 6", x.count(8), 0);
        x.tick(1);
        Check.due("evening at 7", x.count(8), 5);
        x.tick(1);
        Check.due("once", x.count(8), 5);
    }

    private static void setRangesAndAnswers() {
        NoonWells x = new NoonWells();
        Check.due("day 3", x.set(0, 3), BAD);
        Check.due("day 101", x.set(0, 101), BAD);
        Check.due("day 4", x.set(0, 4), 24);
        Check.due("day 100", x.set(0, 100), 4);
        Check.due("the same day", x.set(0, 100), 100);
        Check.due("passing 2", x.set(1, 2), BAD);
        Check.due("passing -1", x.set(1, -1), BAD);
        Check.due("passing 1", x.set(1, 1), 0);
        Check.due("passing 1 again", x.set(1, 1), 1);
        Check.due("passing 0", x.set(1, 0), 1);
        Check.due("what -1", x.set(-1, 4), BAD);
        Check.due("what 2", x.set(2, 1), BAD);
        Check.due("what 20", x.set(20, 24), BAD);
        Check.due("count(20)", x.count(20), 100);
        Check.due("count(21)", x.count(21), 0);
        x.set(1, 1);
        Check.due("count(21) then", x.count(21), 1);
        Check.due("count(20) stays", x.count(20), 100);
    }
}
