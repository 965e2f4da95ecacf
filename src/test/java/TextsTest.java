/** Promises 20 to 23: type, clearText, fault, play. */
public final class TextsTest {
    private static final int NOT = -2;
    private static final int BAD = -1;
    private static final int LIMIT = -3;
    private static final int NONE = -4;

    public static void main(String[] args) {
        typeRangesAndLimit();
        clearTextAnswersTheLength();
        formOfOrders();
        onlyTheTextIsRead();
        fullTexts();
        rangesOfOrders();
        ordersNotPossibleOtherwise();
        theFirstFaultCounts();
        faultDoesThoseAhead();
        faultRangesAndNoChange();
        playDoesAll();
        playOfNothing();
        playIsOneChange();
        playWithAFaultDoesNothing();
        droughtsOfTextsGoFromNow();
        timeLimitInTexts();
        Check.end();
    }

    private static void typeRangesAndLimit() {
        NoonWells x = new NoonWells();
        Check.due("31", x.type(31), BAD);
        Check.due("127", x.type(127), BAD);
        Check.due("-1", x.type(-1), BAD);
        Check.due("65536 + 116", x.type(65536 + 116), BAD);
        Check.due("nothing typed", x.count(14), 0);
        Check.due("32", x.type(32), 1);
        Check.due("126", x.type(126), 2);
        for (int length = 3; length <= 60; length++) {
            Check.due("character " + length, x.type('t'), length);
        }
        Check.due("61st", x.type('t'), LIMIT);
        Check.due("61st, out of range", x.type(127), BAD);
        Check.due("length", x.count(14), 60);
    }

    private static void clearTextAnswersTheLength() {
        NoonWells x = new NoonWells();
        Check.due("empty", x.clearText(), 0);
        Check.typeAll(x, "abc");
        Check.due("three", x.clearText(), 3);
        Check.due("cleared", x.count(14), 0);
        Check.due("again", x.clearText(), 0);
        Check.typeAll(x, "t1;");
        Check.due("nothing of the old text", x.play(), 1);
    }

    /** Two wells: the spring has 100 of 200 buckets, well 1 has 10 of 50, its burst is 5. */
    private static NoonWells field() {
        NoonWells x = new NoonWells();
        x.well(-1, 200, 50, 30);
        x.well(0, 50, 5, 5);
        x.tick(2);
        return x;
    }

    private static void fault(String text, int position, int reason) {
        NoonWells x = field();
        Check.typeAll(x, text);
        Check.due("position in " + text, x.fault(0), position);
        Check.due("reason in " + text, x.fault(1), reason);
        Check.due("play of " + text, x.play(), NOT);
        Check.due("time behind " + text, x.count(2), 2);
        Check.due("water behind " + text, x.count(3), 110);
        Check.due("history behind " + text, x.count(13), 3);
    }

    private static void right(String text, int orders) {
        NoonWells x = field();
        Check.typeAll(x, text);
        Check.due("no position in " + text, x.fault(0), NONE);
        Check.due("no reason in " + text, x.fault(1), NONE);
        Check.due("play of " + text, x.play(), orders);
    }

    private static void formOfOrders() {
        String[] wrong = {";", " ", "d", "t", "t;", "t1", "t1,", "t1,2;", "t1 ;", " t1;", "t 1;",
            "T1;", "x1;", "1;", "t0001;", "t1234;", "t-1;", "t+1;", "d1;", "d1,", "d1,1", "d1,;",
            "d,1;", "d1,1,1;", "d0001,1;", "d1,0001;", "d1;1;", "D1,1;", "r1;", "r1,1", "r1,1,1;",
            "r,1;", "n1;", "n1,1;", "n1,1,1", "n1,1,1,1;", "n,1,1;", "n1,,1;", "n1,1,;",
            "n1,1,0001;", "n1,0001,1;", "N1,1,1;", "w1;", "t1:", "t/;", "t:;", "t1a;"};
        for (String text : wrong) {
            fault(text, 0, 1);
        }
        right("t1;", 1);
        right("t01;", 1);
        right("t001;", 1);
        right("d001,007;", 1);
        right("r00,099;", 1);
        right("n01,001,099;", 1);
        right("t1;d1,5;r0,1;n0,1,1;", 4);
        fault("t1;;", 3, 1);
        fault("t1; t1;", 3, 1);
        fault("t1;t", 3, 1);
        fault("t1;t2;d1,", 6, 1);
    }

    /** What was cleared is no part of a shorter text. */
    private static void onlyTheTextIsRead() {
        String[] cut = {"t", "t1", "t12", "d", "d1", "d1,", "d1,1", "d1,12", "n1,1,1"};
        for (String text : cut) {
            NoonWells x = field();
            Check.typeAll(x, text + "2;");
            x.clearText();
            Check.typeAll(x, text);
            Check.due("position in cut " + text, x.fault(0), 0);
            Check.due("reason in cut " + text, x.fault(1), 1);
            x.clearText();
            Check.typeAll(x, text + ";t1;");
            x.clearText();
            Check.typeAll(x, text);
            Check.due("reason in cut " + text, x.fault(1), 1);
        }
    }

    /** Texts of 60 characters, whole and cut off at each place of the last order. */
    private static void fullTexts() {
        right("t1;t1;t1;t1;t1;t1;t1;t1;t1;t1;t1;t1;t1;t1;t1;t1;t1;t1;t1;t1;", 20);
        String orders = "t1;t1;t1;t1;t1;t1;t1;t1;t1;t1;t1;t1;t1;t1;t1;t1;t1;t1;";
        fault(orders + "t1;n0,", 57, 1);
        fault(orders + "t1;t12", 57, 1);
        fault(orders + "t1;t1,", 57, 1);
        fault(orders + "t1;d1,", 57, 1);
        fault(orders + "t1;d01", 57, 1);
        fault(orders + "t1;tt;", 57, 1);
        fault(orders + "t01;tt", 58, 1);
        fault(orders + "t001;t", 59, 1);
        fault(orders + "d001,1", 54, 1);
        fault(orders + "n1,1,1", 54, 1);
        fault(orders + "d1,001", 54, 1);
        right(orders + "d1,01;", 19);
    }

    private static void rangesOfOrders() {
        String[] wrong = {"t0;", "t000;", "t201;", "t999;", "d2,1;", "d999,1;", "d1,0;", "d1,000;",
            "r2,1;", "r1,0;", "n2,1,1;", "n0,0,1;", "n0,0,0;", "n0,2,1;", "n0,999,998;"};
        for (String text : wrong) {
            fault(text, 0, 2);
        }
        right("t200;", 1);
        right("r1,999;", 1);
        right("n1,1,1;", 1);
        right("n0,999,999;", 1);
        fault("t5;d2,1;", 3, 2);
    }

    private static void ordersNotPossibleOtherwise() {
        fault("d1,41;", 0, 3);
        fault("d1,999;", 0, 3);
        right("d1,40;", 1);
        fault("d1,40;d1,40;", 6, 3);
        fault("r0,999;r0,1;r0,1;r0,1;r0,1;r0,1;r0,1;r0,1;r0,1;", 42, 3);
        right("r0,999;r0,1;r0,1;r0,1;r0,1;r0,1;r0,1;r0,1;", 8);
        NoonWells x = field();
        for (int i = 0; i < 19; i++) {
            x.drought(0, 500, 500);
        }
        Check.typeAll(x, "n1,1,1;");
        Check.due("the 20th drought", x.fault(0), NONE);
        Check.typeAll(x, "n1,1,1;");
        Check.due("the 21st drought", x.fault(0), 7);
        Check.due("its reason", x.fault(1), 3);
    }

    private static void theFirstFaultCounts() {
        fault("d1,0", 0, 1);
        fault("t0;x", 0, 2);
        fault("d1,999;t0;", 0, 3);
        fault("t1;t0;x;", 3, 2);
        fault("t1;d0,999;t0;", 3, 3);
        fault("t1;x;d0,999;", 3, 1);
        fault("d9,999", 0, 1);
    }

    private static void faultDoesThoseAhead() {
        right("d1,10;t2;d1,35;", 3);
        fault("d1,40;t1;d1,36;", 9, 3);
        right("t2;d0,199;", 2);
        fault("d0,199;t2;", 0, 3);
        right("n0,1,2;t2;d0,100;", 3);
        fault("n0,1,2;t2;d0,101;", 10, 3);
        NoonWells x = new NoonWells();
        Check.typeAll(x, "t1;d0,1;");
        Check.due("no well: position", x.fault(0), 3);
        Check.due("no well: reason", x.fault(1), 2);
        x.well(-1, 10, 1, 1);
        Check.due("with a well", x.fault(1), NONE);
        x.undo();
        Check.due("without it again", x.fault(0), 3);
    }

    private static void faultRangesAndNoChange() {
        NoonWells x = field();
        Check.due("empty: position", x.fault(0), NONE);
        Check.due("empty: reason", x.fault(1), NONE);
        Check.due("what -1", x.fault(-1), BAD);
        Check.due("what 2", x.fault(2), BAD);
        Check.typeAll(x, "t9;d0,5;x");
        Check.due("what 2 with a fault", x.fault(2), BAD);
        Check.due("position", x.fault(0), 8);
        Check.due("again", x.fault(0), 8);
        Check.due("time stays", x.count(2), 2);
        Check.due("water stays", x.count(3), 110);
        Check.due("history stays", x.count(13), 3);
        Check.due("text stays", x.count(14), 9);
    }

    private static void playDoesAll() {
        NoonWells x = field();
        Check.typeAll(x, "d1,12;r0,2;r1,40;n1,1,3;t4;");
        Check.due("orders", x.play(), 5);
        Check.due("time", x.count(2), 6);
        Check.due("drawn", x.count(6), 14);
        Check.due("one waits", x.requestAt(1, 1), 40);
        Check.due("since", x.requestAt(1, 2), 2);
        Check.due("drought from", x.droughtOf(0, 1), 3);
        Check.due("drought to", x.droughtOf(0, 2), 5);
        Check.due("well 1 got one flow", x.wellOf(1, 4), 5);
        Check.due("the text stays", x.count(14), 27);
        Check.due("once more", x.play(), 5);
        Check.due("two droughts", x.count(1), 2);
        Check.due("time then", x.count(2), 10);
    }

    private static void playOfNothing() {
        NoonWells x = new NoonWells();
        Check.due("no orders", x.play(), 0);
        Check.due("one change", x.count(13), 1);
        x.tick(1);
        Check.due("no orders", x.play(), 0);
        Check.due("undo of nothing", x.undo(), 2);
        Check.due("time", x.count(2), 1);
    }

    private static void playIsOneChange() {
        NoonWells x = new NoonWells();
        x.well(-1, 50, 5, 5);
        Check.typeAll(x, "t1;t1;t1;t1;t1;t1;d0,3;r0,1;n0,1,1;");
        Check.due("nine orders", x.play(), 9);
        Check.due("one state more", x.count(13), 2);
        Check.due("undo all", x.undo(), 1);
        Check.due("time", x.count(2), 0);
        Check.due("drawn", x.count(6), 0);
        Check.due("droughts", x.count(1), 0);
    }

    private static void playWithAFaultDoesNothing() {
        NoonWells x = field();
        Check.typeAll(x, "t5;d0,99;d0,999;");
        Check.due("fault", x.play(), NOT);
        Check.due("time", x.count(2), 2);
        Check.due("drawn", x.count(6), 0);
        Check.due("history", x.count(13), 3);
        Check.due("the text stays", x.clearText(), 16);
        Check.typeAll(x, "t5;d0,99;");
        Check.due("without it", x.play(), 2);
        Check.due("time then", x.count(2), 7);
    }

    private static void droughtsOfTextsGoFromNow() {
        NoonWells x = field();
        x.tick(100);
        Check.typeAll(x, "n1,1,5;t3;n0,10,999;");
        Check.due("orders", x.play(), 3);
        Check.due("well of 0", x.droughtOf(0, 0), 1);
        Check.due("from of 0", x.droughtOf(0, 1), 103);
        Check.due("to of 0", x.droughtOf(0, 2), 107);
        Check.due("well of 1", x.droughtOf(1, 0), 0);
        Check.due("from of 1", x.droughtOf(1, 1), 115);
        Check.due("to of 1", x.droughtOf(1, 2), 1104);
    }

    private static void timeLimitInTexts() {
        NoonWells x = new NoonWells();
        x.well(-1, 50, 5, 5);
        for (int i = 0; i < 249; i++) {
            x.tick(200);
        }
        Check.typeAll(x, "t100;t101;");
        Check.due("position", x.fault(0), 5);
        Check.due("reason", x.fault(1), 3);
        Check.due("play", x.play(), NOT);
        x.clearText();
        Check.typeAll(x, "t100;t100;n0,1,999;");
        Check.due("up to 50000", x.play(), 3);
        Check.due("time", x.count(2), 50000);
        Check.due("drought to", x.droughtOf(0, 2), 50999);
    }
}
