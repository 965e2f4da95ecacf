/** Promises 13 to 17: able, gives, possibleIn, waterIn, lenders. */
public final class ForecastTest {
    private static final int BAD = -1;
    private static final int NOT = -2;
    private static final int NONE = -4;

    public static void main(String[] args) {
        ableCountsBursts();
        ableIsNotBoundByADraw();
        givesTellsShares();
        givesErrors();
        possibleInCountsTicks();
        possibleInLooksBehindWholeTicks();
        possibleInRanges();
        waterInSeesWhatWaits();
        waterInSeesNoonEveningAndDroughts();
        waterInRanges();
        lendersOfNow();
        lendersWithWhatTheyGet();
        lendersNeedRoom();
        forecastsChangeNothing();
        Check.end();
    }

    /** Three wells in a chain with 30, 20 and 10 buckets of water, and one beside with 5. */
    private static NoonWells chain() {
        NoonWells x = new NoonWells();
        x.well(-1, 300, 30, 12);
        x.well(0, 200, 20, 70);
        x.well(1, 100, 10, 0);
        x.well(0, 100, 5, 0);
        x.tick(1);
        return x;
    }

    private static void ableCountsBursts() {
        NoonWells x = chain();
        Check.due("0", x.able(0), 30);
        Check.due("1: 20 and 12", x.able(1), 32);
        Check.due("2: 10 and 20 and 12", x.able(2), 42);
        Check.due("3: 5 and 12", x.able(3), 17);
        Check.due("well 4", x.able(4), BAD);
        Check.due("well -1", x.able(-1), BAD);
        x.draw(2, 42);
        Check.due("2 then: 0 and 0 and 12", x.able(2), 12);
        Check.due("0 then", x.able(0), 18);
        x.request(2, 500);
        Check.due("a waiting request does not matter", x.able(2), 12);
    }

    private static void ableIsNotBoundByADraw() {
        NoonWells x = new NoonWells();
        for (int i = 0; i < 12; i++) {
            x.well(i - 1, 1000, 100, 1000);
        }
        x.tick(10);
        Check.due("12 wells of 1000", x.able(11), 12000);
        Check.due("the spring", x.able(0), 1000);
        Check.due("999 of it", x.draw(11, 999), 0);
        Check.due("then", x.able(11), 11001);
    }

    private static void givesTellsShares() {
        NoonWells x = chain();
        Check.due("2 gives itself 10 of 10", x.gives(2, 10, 2), 10);
        Check.due("1 none of 10", x.gives(2, 10, 1), 0);
        Check.due("1 gives 1 of 11", x.gives(2, 11, 1), 1);
        Check.due("0 none of 11", x.gives(2, 11, 0), 0);
        Check.due("0 gives 12 of 42", x.gives(2, 42, 0), 12);
        Check.due("1 gives 20 of 42", x.gives(2, 42, 1), 20);
        Check.due("2 gives itself 10 of 42", x.gives(2, 42, 2), 10);
        Check.due("3 is beside", x.gives(2, 42, 3), 0);
        Check.due("2 is below", x.gives(1, 30, 2), 0);
        Check.due("0 gives 10 of 30", x.gives(1, 30, 0), 10);
        Check.due("all of the spring", x.gives(0, 30, 0), 30);
        Check.due("the spring lends as it told", x.draw(2, 35), 25);
        Check.due("by its account", x.wellOf(0, 9), 5);
    }

    private static void givesErrors() {
        NoonWells x = chain();
        Check.due("not possible", x.gives(2, 43, 2), NOT);
        Check.due("not possible, of one that would not give", x.gives(2, 43, 3), NOT);
        Check.due("999 buckets", x.gives(2, 999, 2), NOT);
        Check.due("1000 buckets", x.gives(2, 1000, 2), BAD);
        Check.due("0 buckets", x.gives(2, 0, 2), BAD);
        Check.due("well 4", x.gives(4, 1, 0), BAD);
        Check.due("well -1", x.gives(-1, 1, 0), BAD);
        Check.due("giver 4", x.gives(2, 1, 4), BAD);
        Check.due("giver -1", x.gives(2, 1, -1), BAD);
        Check.due("giver 4, not possible", x.gives(2, 43, 4), BAD);
    }

    private static void possibleInCountsTicks() {
        NoonWells x = new NoonWells();
        x.well(-1, 1000, 2, 0);
        x.well(0, 1000, 1, 0);
        x.set(0, 100);
        Check.due("600 of the spring", x.possibleIn(0, 600), 300);
        Check.due("601 of the spring", x.possibleIn(0, 601), NONE);
        Check.due("1 of well 1", x.possibleIn(1, 1), 1);
        Check.due("300 of well 1", x.possibleIn(1, 300), 300);
        Check.due("301 of well 1", x.possibleIn(1, 301), NONE);
        x.tick(5);
        Check.due("10 now", x.possibleIn(0, 10), 0);
        Check.due("11 in a tick", x.possibleIn(0, 11), 1);
        x.drought(0, 7, 30);
        Check.due("12 ahead of the drought", x.possibleIn(0, 12), 1);
        Check.due("13 behind the drought", x.possibleIn(0, 13), 26);
        x.drought(1, 6, 400);
        Check.due("not in a long drought", x.possibleIn(1, 6), NONE);
    }

    private static void possibleInLooksBehindWholeTicks() {
        NoonWells x = new NoonWells();
        x.well(-1, 1000, 2, 0);
        x.request(0, 2);
        x.request(0, 3);
        // At 1 the first request takes 2, at 3 the second takes 3 of 4: 1 is left, then 3.
        Check.due("1 behind the second request", x.possibleIn(0, 1), 2);
        Check.due("2, while the second one waits", x.possibleIn(0, 2), 2);
        Check.due("3 behind both", x.possibleIn(0, 3), 4);
        x.tick(2);
        Check.due("possible now, though one waits", x.possibleIn(0, 2), 0);
        x.set(1, 1);
        x.request(0, 1);
        Check.due("one passed over, the next drawn", x.possibleIn(0, 3), 3);
    }

    private static void possibleInRanges() {
        NoonWells x = chain();
        Check.due("0 buckets", x.possibleIn(0, 0), BAD);
        Check.due("1000 buckets", x.possibleIn(0, 1000), BAD);
        Check.due("999 buckets", x.possibleIn(0, 999), NONE);
        Check.due("well 4", x.possibleIn(4, 1), BAD);
        Check.due("well -1", x.possibleIn(-1, 1), BAD);
    }

    private static void waterInSeesWhatWaits() {
        NoonWells x = new NoonWells();
        x.well(-1, 50, 2, 0);
        x.request(0, 7);
        Check.due("0 ticks", x.waterIn(0, 0), 0);
        Check.due("3 ticks", x.waterIn(0, 3), 6);
        Check.due("4 ticks", x.waterIn(0, 4), 1);
        Check.due("300 ticks", x.waterIn(0, 300), 50);
        x.tick(4);
        Check.due("as it came", x.wellOf(0, 4), 1);
    }

    private static void waterInSeesNoonEveningAndDroughts() {
        NoonWells x = new NoonWells();
        x.well(-1, 100, 0, 0);
        x.well(0, 10, 3, 0);
        x.set(0, 8);
        x.drought(1, 2, 2);
        x.drought(1, 9, 100);
        Check.due("drought at 2", x.waterIn(1, 3), 6);
        Check.due("full at 7", x.waterIn(1, 7), 10);
        Check.due("noon at 8", x.waterIn(1, 8), 5);
        Check.due("noon at 8 above", x.waterIn(0, 8), 5);
        Check.due("before the evening", x.waterIn(1, 11), 5);
        Check.due("evening at 12", x.waterIn(1, 12), 10);
        Check.due("evening at 12 above", x.waterIn(0, 12), 0);
        for (int i = 1; i <= 20; i++) {
            int told = x.waterIn(1, 1);
            x.tick(1);
            Check.due("told of tick " + i, x.wellOf(1, 4), told);
        }
    }

    private static void waterInRanges() {
        NoonWells x = chain();
        Check.due("-1 ticks", x.waterIn(0, -1), BAD);
        Check.due("301 ticks", x.waterIn(0, 301), BAD);
        Check.due("max ticks", x.waterIn(0, Integer.MAX_VALUE), BAD);
        Check.due("well 4", x.waterIn(4, 0), BAD);
        Check.due("well -1", x.waterIn(-1, 0), BAD);
        Check.due("0 ticks", x.waterIn(0, 0), 30);
        Check.due("1 tick", x.waterIn(0, 1), 60);
    }

    private static void lendersOfNow() {
        NoonWells x = new NoonWells();
        x.well(-1, 100, 100, 0);
        x.well(0, 10, 5, 0);
        x.well(0, 10, 6, 0);
        x.well(0, 11, 6, 0);
        Check.due("without water", x.lenders(), 0);
        x.tick(1);
        Check.due("the spring is full", x.lenders(), 0);
        x.draw(0, 50);
        Check.due("6 of 10 and 6 of 11; 5 of 10 has no more", x.lenders(), 4 + 8);
        x.draw(2, 1);
        Check.due("6 of 11", x.lenders(), 8);
        Check.due("it was no noon", x.count(7), 0);
    }

    private static void lendersWithWhatTheyGet() {
        NoonWells x = new NoonWells();
        x.well(-1, 100, 0, 0);
        x.well(0, 20, 8, 0);
        x.well(1, 10, 10, 0);
        x.tick(1);
        Check.due("1 has 8 and gets 5", x.lenders(), 2 + 4);
        x.draw(1, 3);
        Check.due("1 has 5 and gets 5: no more than half", x.lenders(), 4);
        x.drought(2, 2, 30);
        x.draw(2, 5);
        Check.due("2 has half", x.lenders(), 0);
    }

    private static void lendersNeedRoom() {
        NoonWells x = new NoonWells();
        x.well(-1, 10, 9, 0);
        x.well(0, 10, 10, 0);
        x.well(0, 10, 10, 0);
        x.tick(1);
        Check.due("room for one bucket: the greatest number has it", x.lenders(), 4);
        x.draw(0, 5);
        Check.due("room for 6: 5 and 1", x.lenders(), 2 + 4);
        NoonWells twelve = new NoonWells();
        twelve.well(-1, 1000, 0, 0);
        for (int i = 1; i < 12; i++) {
            twelve.well(0, 10, 10, 0);
        }
        twelve.tick(1);
        Check.due("eleven lenders", twelve.lenders(), 4094);
    }

    private static void forecastsChangeNothing() {
        NoonWells x = chain();
        x.request(2, 999);
        x.request(0, 1);
        x.set(1, 1);
        int[] before = new int[22];
        for (int what = 0; what < before.length; what++) {
            before[what] = x.count(what);
        }
        x.able(2);
        x.gives(2, 42, 1);
        x.possibleIn(2, 999);
        x.possibleIn(2, 50);
        x.waterIn(2, 300);
        x.lenders();
        for (int what = 0; what < before.length; what++) {
            Check.due("count(" + what + ") stays", x.count(what), before[what]);
        }
        Check.due("water of 2 stays", x.wellOf(2, 4), 10);
        Check.due("the row stays", x.requestAt(2, 1), 1);
    }
}
