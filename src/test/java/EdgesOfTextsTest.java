/** The boundary cases of promises 20 to 23, type, clearText, fault, play, and of "Texts". */
public final class EdgesOfTextsTest {
    private static final int BAD = Edges.BAD;
    private static final int NOT = Edges.NOT;
    private static final int LIMIT = Edges.LIMIT;
    private static final int NONE = Edges.NONE;
    private static final int MIN = Edges.MIN;
    private static final int MAX = Edges.MAX;
    private static final int MALFORMED = 1;
    private static final int OUT_OF_RANGE = 2;
    private static final int OTHERWISE = 3;

    /** The spring has 20 buckets of 1000, and a burst of 5; well 1 has 10. */
    private static final Edges.State TWO = x -> {
        x.well(-1, 1000, 20, 5);
        x.well(0, 1000, 10, 0);
        x.tick(1);
    };

    public static void main(String[] args) {
        typeCharacters();
        typeUpTo60();
        typeErrorsTogether();
        clearTextOfEachLength();
        textIsInitiallyEmpty();
        numbersHave1To3Digits();
        numbersHaveZerosInFront();
        numbersAreOfDigits();
        ordersAreFollowedByASemicolon();
        ordersHaveTheirSigns();
        ordersAreWrittenInSmallLetters();
        ticksOfAnOrder();
        wellsOfAnOrder();
        bucketsOfAnOrder();
        droughtTimesOfAnOrder();
        drawsOfAnOrderAreNotPossible();
        requestsOfAnOrderFindTheRowFull();
        droughtsOfAnOrderReachTheLimit();
        ticksOfAnOrderReachTheLastTime();
        reasonIsTheFirstOne();
        positionIsOfTheFirstFault();
        faultIsWhenThoseAheadAreDone();
        faultWhat();
        faultOfNoFault();
        playIsOfAllOrNothing();
        playTellsHowManyOrders();
        playLeavesTheText();
        droughtsAreFromNowOn();
        Check.end();
    }

    private static Edges.State text(String text) {
        return text(TWO, text);
    }

    private static Edges.State text(Edges.State state, String text) {
        return Edges.with(state, x -> Edges.typed(x, text));
    }

    private static void faulty(Edges.State state, String text, int position, int reason) {
        Edges.State typed = text(state, text);
        Edges.unchanged("22: position in " + text, typed, x -> x.fault(0), position);
        Edges.unchanged("22: reason in " + text, typed, x -> x.fault(1), reason);
        Edges.unchanged("23: play of " + text, typed, x -> x.play(), NOT);
    }

    private static void faulty(String text, int position, int reason) {
        faulty(TWO, text, position, reason);
    }

    private static void faultless(Edges.State state, String text, int orders) {
        Edges.State typed = text(state, text);
        Edges.unchanged("22: position in " + text, typed, x -> x.fault(0), NONE);
        Edges.unchanged("22: reason in " + text, typed, x -> x.fault(1), NONE);
        Edges.changed("23: play of " + text, typed, x -> x.play(), orders);
    }

    private static void faultless(String text, int orders) {
        faultless(TWO, text, orders);
    }

    /** Promise 20: "character: 32 to 126". */
    private static void typeCharacters() {
        for (int character : new int[] {MIN, -1, 0, 10, 30, 31, 127, 128, 255, 256 + 't',
            65536 + 't', MAX}) {
            for (Edges.State state : Edges.ALL) {
                Edges.unchanged("20: " + character, state, x -> x.type(character), BAD);
            }
        }
        for (int character : new int[] {32, 33, 't', 125, 126}) {
            NoonWells x = Edges.at(TWO);
            Check.due("20: " + character, x.type(character), 1);
            Check.due("20: length", x.count(14), 1);
            Check.due("20: no change", x.count(13), 3);
            Check.due("20: not an order", x.fault(1), MALFORMED);
        }
    }

    private static Edges.State signs(int many) {
        return x -> {
            for (int i = 0; i < many; i++) {
                x.type("t1;".charAt(i % 3));
            }
        };
    }

    /** Promise 20: "LIMIT_REACHED if it has 60 characters"; Texts: "at most 60 characters". */
    private static void typeUpTo60() {
        for (int had = 0; had < 60; had++) {
            NoonWells x = Edges.at(signs(had));
            Check.due("20: behind " + had, x.type(';'), had + 1);
            Check.due("20: length", x.count(14), had + 1);
        }
        Edges.unchanged("20: behind 60", signs(60), x -> x.type('t'), LIMIT);
        Edges.unchanged("20: a space behind 60", signs(60), x -> x.type(32), LIMIT);
        NoonWells x = Edges.at(signs(61));
        Check.due("20: 60 are kept", x.count(14), 60);
        Check.due("20: the last one is the 60th", x.play(), 20);
        Check.due("20: cleared", x.clearText(), 60);
        Check.due("20: there is a place again", x.type('t'), 1);
    }

    /** Errors: "INVALID_ARGUMENT is returned rather than" LIMIT_REACHED. */
    private static void typeErrorsTogether() {
        for (int character : new int[] {MIN, -1, 31, 127, MAX}) {
            Edges.unchanged("20: full, " + character, signs(60), x -> x.type(character), BAD);
        }
    }

    /** Promise 21: "Returns the length it had": 0, 1, 59 and 60. */
    private static void clearTextOfEachLength() {
        for (int length : new int[] {0, 1, 2, 59, 60}) {
            NoonWells x = Edges.at(Edges.with(TWO, signs(length)));
            Check.due("21: of " + length, x.clearText(), length);
            Check.due("21: is empty", x.count(14), 0);
            Check.due("21: again", x.clearText(), 0);
            Check.due("21: no change", x.count(13), 3);
            Check.due("21: no fault", x.fault(0), NONE);
            Check.due("21: no orders", x.play(), 0);
            Check.due("21: typed from the front", x.type('t'), 1);
        }
        Edges.unchanged("21: of an empty text", TWO, x -> x.clearText(), 0);
    }

    /** Texts: "initially empty". */
    private static void textIsInitiallyEmpty() {
        Edges.unchanged("Texts: length", Edges.NEW, x -> x.count(14), 0);
        Edges.unchanged("Texts: length", TWO, x -> x.count(14), 0);
        faultless(Edges.NEW, "", 0);
        faultless("", 0);
    }

    /** Texts: "numbers of 1 to 3 digits": 0, 1, 2, 3 and 4, at each place of each order. */
    private static void numbersHave1To3Digits() {
        String[][] orders = {{"t", ";"}, {"d", ",1;"}, {"d1,", ";"}, {"r", ",1;"}, {"r1,", ";"},
            {"n", ",1,1;"}, {"n1,", ",1;"}, {"n1,1,", ";"}};
        for (String[] order : orders) {
            faulty(order[0] + order[1], 0, MALFORMED);
            faultless(order[0] + "1" + order[1], 1);
            faultless(order[0] + "01" + order[1], 1);
            faultless(order[0] + "001" + order[1], 1);
            faulty(order[0] + "0001" + order[1], 0, MALFORMED);
            faulty(order[0] + "00001" + order[1], 0, MALFORMED);
        }
        faultless("t10;", 1);
        faultless("t100;", 1);
        faulty("t1000;", 0, MALFORMED);
        faulty("r1,1000;", 0, MALFORMED);
        faulty("n1,1,1000;", 0, MALFORMED);
    }

    /** Texts: "zeros in front allowed": they do not count, and are no number of another base. */
    private static void numbersHaveZerosInFront() {
        String[] same = {"t10;d1,8;", "t010;d01,08;", "t10;d001,008;"};
        for (String text : same) {
            NoonWells x = Edges.at(text(text));
            Check.due("Texts: play of " + text, x.play(), 2);
            Check.due("Texts: time behind " + text, x.count(2), 11);
            Check.due("Texts: drawn behind " + text, x.count(6), 8);
        }
        faulty("t000;", 0, OUT_OF_RANGE);
        faulty("t00;", 0, OUT_OF_RANGE);
        faulty("d1,000;", 0, OUT_OF_RANGE);
        faultless("d000,001;", 1);
    }

    /** Texts: "numbers ... of digits": the signs beside "0" and "9", signs, spaces, points. */
    private static void numbersAreOfDigits() {
        for (char sign : new char[] {'/', ':', '-', '+', ' ', '.', 'a', 'x', '~', ',', ';'}) {
            faulty("t" + sign + ";", 0, MALFORMED);
            faulty("t1" + sign + "1;", sign == ';' ? 3 : 0, MALFORMED);
            faulty("d" + sign + ",1;", 0, MALFORMED);
            faulty("d1," + sign + ";", 0, MALFORMED);
            faulty("n1,1," + sign + "1;", 0, MALFORMED);
        }
        for (char digit = '0'; digit <= '9'; digit++) {
            NoonWells x = Edges.at(text("t1" + digit + ";"));
            Check.due("Texts: digit " + digit, x.play(), 1);
            Check.due("Texts: time by digit " + digit, x.count(2), 11 + digit - '0');
        }
    }

    /** Texts: "orders, each followed by ";"": "1 it is not of this form, its ";" included". */
    private static void ordersAreFollowedByASemicolon() {
        for (String order : new String[] {"t1", "d1,1", "r1,1", "n1,1,1"}) {
            faulty(order, 0, MALFORMED);
            faultless(order + ";", 1);
            faulty(order + ";;", order.length() + 1, MALFORMED);
            faulty(order + "; ", order.length() + 1, MALFORMED);
            faulty(" " + order + ";", 0, MALFORMED);
            faulty(order + " ;", 0, MALFORMED);
            faulty(order + ",", 0, MALFORMED);
            faulty(order + ":", 0, MALFORMED);
            faulty(order + ";" + order, order.length() + 1, MALFORMED);
            faultless(order + ";" + order + ";", 2);
        }
        faulty(";", 0, MALFORMED);
        faulty(";t1;", 0, MALFORMED);
    }

    /** Texts: how many numbers each order has: one fewer and one more are not of its form. */
    private static void ordersHaveTheirSigns() {
        String[] wrong = {"t;", "t1,1;", "t,;", "d;", "d1;", "d1,1,1;", "d1 1;", "d1;1;", "d,1;",
            "d1,;", "d11;", "r;", "r1;", "r1,1,1;", "r1;1;", "r,1;", "r1,;", "n;", "n1;", "n1,1;",
            "n1,1,1,1;", "n1;1,1;", "n1,1;1;", "n,1,1;", "n1,,1;", "n1,1,;", "n1,1 1;"};
        for (String text : wrong) {
            faulty(text, 0, MALFORMED);
        }
        // Cut off behind each sign, at the end of the text.
        for (String order : new String[] {"t123;", "d1,123;", "r1,123;", "n1,123,456;"}) {
            for (int length = 1; length < order.length(); length++) {
                faulty(order.substring(0, length), 0, MALFORMED);
                faulty("t1;" + order.substring(0, length), 3, MALFORMED);
            }
        }
    }

    /** Texts: "d", "r", "t", "n": no other letter, and no great one. */
    private static void ordersAreWrittenInSmallLetters() {
        for (int sign = 32; sign <= 126; sign++) {
            if (sign != 't') {
                faulty((char) sign + "1;", 0, MALFORMED);
            }
            if (sign != 'd' && sign != 'r') {
                faulty((char) sign + "1,1;", 0, MALFORMED);
            }
            if (sign != 'n') {
                faulty((char) sign + "1,1,1;", 0, MALFORMED);
            }
        }
    }

    /** Texts, by promise 11: "ticks: 1 to 200". */
    private static void ticksOfAnOrder() {
        for (int ticks : new int[] {0, 201, 202, 999}) {
            faulty("t" + ticks + ";", 0, OUT_OF_RANGE);
        }
        for (int ticks : new int[] {1, 2, 199, 200}) {
            faultless("t" + ticks + ";", 1);
            NoonWells x = Edges.at(text("t" + ticks + ";"));
            x.play();
            Check.due("23: time behind " + ticks, x.count(2), 1 + ticks);
        }
    }

    /** Texts: "a well": by promises 3, 7 and 8 "number of the well". */
    private static void wellsOfAnOrder() {
        String[][] orders = {{"d", ",1;"}, {"r", ",1;"}, {"n", ",1,1;"}};
        for (String[] order : orders) {
            faultless(order[0] + "0" + order[1], 1);
            faultless(order[0] + "1" + order[1], 1);
            faulty(order[0] + "2" + order[1], 0, OUT_OF_RANGE);
            faulty(order[0] + "12" + order[1], 0, OUT_OF_RANGE);
            faulty(order[0] + "999" + order[1], 0, OUT_OF_RANGE);
            faulty(Edges.NEW, order[0] + "0" + order[1], 0, OUT_OF_RANGE);
        }
        faultless(Edges.with(Edges.FULL, x -> x.clearText()), "d11,1;", 1);
        faulty(Edges.with(Edges.FULL, x -> x.clearText()), "d12,1;", 0, OUT_OF_RANGE);
    }

    /** Texts, by promises 7 and 8: "buckets: 1 to 999". */
    private static void bucketsOfAnOrder() {
        faulty("d0,0;", 0, OUT_OF_RANGE);
        faultless("d0,1;", 1);
        faulty("r0,0;", 0, OUT_OF_RANGE);
        faultless("r0,1;", 1);
        faultless("r0,998;", 1);
        faultless("r0,999;", 1);
        Edges.State great = Edges.with(TWO, x -> x.tick(49));
        faultless(great, "d0,998;", 1);
        faultless(great, "d0,999;", 1);
    }

    /** Texts, by promise 3: "from the present time + 1", and to "from from". */
    private static void droughtTimesOfAnOrder() {
        faulty("n0,0,0;", 0, OUT_OF_RANGE);
        faulty("n0,0,1;", 0, OUT_OF_RANGE);
        faulty("n0,0,999;", 0, OUT_OF_RANGE);
        faulty("n0,1,0;", 0, OUT_OF_RANGE);
        faultless("n0,1,1;", 1);
        faultless("n0,1,2;", 1);
        faultless("n0,1,999;", 1);
        faulty("n0,5,4;", 0, OUT_OF_RANGE);
        faultless("n0,5,5;", 1);
        faultless("n0,5,6;", 1);
        faulty("n0,999,998;", 0, OUT_OF_RANGE);
        faultless("n0,999,999;", 1);
    }

    /** Texts: "3 it is not possible otherwise", by "NOT_POSSIBLE if the draw is not possible". */
    private static void drawsOfAnOrderAreNotPossible() {
        faultless("d1,14;", 1);
        faultless("d1,15;", 1);
        faulty("d1,16;", 0, OTHERWISE);
        faulty("d1,999;", 0, OTHERWISE);
        faultless("d0,20;", 1);
        faulty("d0,21;", 0, OTHERWISE);
        faultless("r0,21;", 1);
    }

    /** Texts: "3 it is not possible otherwise", by "LIMIT_REACHED if it has to wait and 8 wait". */
    private static void requestsOfAnOrderFindTheRowFull() {
        Edges.State seven = Edges.with(TWO, x -> {
            for (int i = 0; i < 7; i++) {
                x.request(0, 999);
            }
        });
        faultless(seven, "r0,1;", 1);
        faulty(seven, "r0,1;r0,1;", 5, OTHERWISE);
        faulty(Edges.with(seven, x -> x.request(0, 1)), "r0,1;", 0, OTHERWISE);
        faulty("r0,99;r0,1;r0,1;r0,1;r0,1;r0,1;r0,1;r0,1;r0,1;", 41, OTHERWISE);
        faultless("r0,99;r0,1;r0,1;r0,1;r0,1;r0,1;r0,1;r0,1;", 8);
        faultless("r0,1;r0,1;r0,1;r0,1;r0,1;r0,1;r0,1;r0,1;r0,1;", 9);
    }

    /** Texts: "3 it is not possible otherwise", by "LIMIT_REACHED if there are 20." */
    private static void droughtsOfAnOrderReachTheLimit() {
        Edges.State nineteen = Edges.with(TWO, x -> {
            for (int i = 0; i < 19; i++) {
                x.drought(0, 2, 2);
            }
        });
        faultless(nineteen, "n0,1,1;", 1);
        faulty(nineteen, "n0,1,1;n0,1,1;", 7, OTHERWISE);
        faulty(Edges.with(nineteen, x -> x.drought(0, 2, 2)), "n0,1,1;", 0, OTHERWISE);
    }

    /** Texts: "3 it is not possible otherwise", by "LIMIT_REACHED if the time would be above". */
    private static void ticksOfAnOrderReachTheLastTime() {
        faultless(Edges.late(49998), "t1;", 1);
        faultless(Edges.late(49998), "t2;", 1);
        faulty(Edges.late(49998), "t3;", 0, OTHERWISE);
        faultless(Edges.late(49998), "t1;t1;", 2);
        faulty(Edges.late(49998), "t1;t1;t1;", 6, OTHERWISE);
        faulty(Edges.LAST, "t1;", 0, OTHERWISE);
        faulty(Edges.LAST, "t200;", 0, OTHERWISE);
        faultless(Edges.LAST, "n0,1,999;", 1);
    }

    /** Texts: "its reason is the first of these". */
    private static void reasonIsTheFirstOne() {
        // Not of its form, and out of range, or not possible.
        faulty("t0", 0, MALFORMED);
        faulty("t201", 0, MALFORMED);
        faulty("t201,", 0, MALFORMED);
        faulty("d2,0", 0, MALFORMED);
        faulty("d0,999", 0, MALFORMED);
        faulty("d0,9990;", 0, MALFORMED);
        faulty("n2,0,0", 0, MALFORMED);
        // Out of range, and not possible.
        faulty("d0,0;", 0, OUT_OF_RANGE);
        faulty("d2,999;", 0, OUT_OF_RANGE);
        Edges.State full = Edges.with(Edges.FULL, x -> x.clearText());
        faulty(full, "r0,1;", 0, OTHERWISE);
        faulty(full, "r12,1;", 0, OUT_OF_RANGE);
        faulty(full, "r0,0;", 0, OUT_OF_RANGE);
        faulty(full, "n0,1,1;", 0, OTHERWISE);
        faulty(full, "n12,1,1;", 0, OUT_OF_RANGE);
        faulty(full, "n0,0,1;", 0, OUT_OF_RANGE);
        faulty(full, "n0,2,1;", 0, OUT_OF_RANGE);
        faulty(Edges.LAST, "t201;", 0, OUT_OF_RANGE);
        faulty(Edges.LAST, "t0;", 0, OUT_OF_RANGE);
    }

    /** Texts: "the position, from 0, of the first character of the first order" at fault. */
    private static void positionIsOfTheFirstFault() {
        faulty("x", 0, MALFORMED);
        faulty("t1;x", 3, MALFORMED);
        faulty("t01;x", 4, MALFORMED);
        faulty("n1,1,1;d1,1;x", 12, MALFORMED);
        faulty("t0;x;d0,999;", 0, OUT_OF_RANGE);
        faulty("t1;t0;x;", 3, OUT_OF_RANGE);
        faulty("d0,999;t0;x", 0, OTHERWISE);
        faulty("t1;d0,999;t0;", 3, OTHERWISE);
        String most = "t1;t1;t1;t1;t1;t1;t1;t1;t1;t1;t1;t1;t1;t1;t1;t1;t1;t1;t1;";
        faultless(most + "t1;", 20);
        faulty(most + "t0;", 57, OUT_OF_RANGE);
        faulty(most + "t1", 57, MALFORMED);
        faulty(most + "t12", 57, MALFORMED);
        faulty(most + "t", 57, MALFORMED);
        faultless(most, 19);
        faulty("t0" + most.substring(2), 0, OUT_OF_RANGE);
        faulty(most.substring(3) + "t01;x", 58, MALFORMED);
        faulty(most.substring(3) + "t001;x", 59, MALFORMED);
    }

    /** Texts: "when those ahead of it are done". */
    private static void faultIsWhenThoseAheadAreDone() {
        faultless("d0,10;d0,10;", 2);
        faulty("d0,10;d0,11;", 6, OTHERWISE);
        faultless("t1;d0,40;", 2);
        faulty("t1;d0,41;", 3, OTHERWISE);
        faulty("d0,40;t1;", 0, OTHERWISE);
        faultless("n0,1,1;t1;d0,20;", 3);
        faulty("n0,1,1;t1;d0,21;", 10, OTHERWISE);
        faultless("r0,30;t1;d0,10;", 3);
        faulty("r0,30;t1;d0,11;", 9, OTHERWISE);
    }

    /** Promise 22: "what: 0: its position; 1: its reason". */
    private static void faultWhat() {
        for (int what : new int[] {MIN, -1, 2, 3, MAX}) {
            for (String text : new String[] {"", "t1;", "t0;"}) {
                Edges.unchanged("22: what " + what, text(text), x -> x.fault(what), BAD);
            }
            Edges.unchanged("22: what " + what, Edges.NEW, x -> x.fault(what), BAD);
        }
        Edges.unchanged("22: what 0", text("t1;t0;"), x -> x.fault(0), 3);
        Edges.unchanged("22: what 1", text("t1;t0;"), x -> x.fault(1), OUT_OF_RANGE);
    }

    /** Promise 22: "NOT_FOUND if the text has no fault (also if it is empty)". */
    private static void faultOfNoFault() {
        for (String text : new String[] {"", "t1;", "r0,999;"}) {
            Edges.unchanged("22: position in " + text, text(text), x -> x.fault(0), NONE);
            Edges.unchanged("22: reason in " + text, text(text), x -> x.fault(1), NONE);
        }
        NoonWells x = Edges.at(text("t0;"));
        Check.due("22: a fault", x.fault(1), OUT_OF_RANGE);
        x.clearText();
        Check.due("22: none any more", x.fault(1), NONE);
        Edges.typed(x, "d0,25;");
        Check.due("22: not possible yet", x.fault(1), OTHERWISE);
        x.tick(1);
        Check.due("22: possible then", x.fault(1), NONE);
        x.undo();
        Check.due("22: not possible again", x.fault(1), OTHERWISE);
    }

    /** Promise 23: "NOT_POSSIBLE if it has a fault": also when it is the last order that has it. */
    private static void playIsOfAllOrNothing() {
        Edges.State last = text("t1;d0,1;r1,1;n0,1,1;r0,999;r0,1;t1;d0,999;");
        Edges.unchanged("23: the last order is not possible", last, x -> x.play(), NOT);
        Edges.State form = text("t1;d0,1;r1,1;n0,1,1;r0,999;r0,1;t1;d");
        Edges.unchanged("23: the last order is cut off", form, x -> x.play(), NOT);
        Edges.State all = text("t1;d0,1;r1,1;n0,1,1;r0,999;r0,1;t1;");
        Edges.changed("23: without it", all, x -> x.play(), 7);
        NoonWells x = Edges.at(all);
        x.play();
        Check.due("23: time", x.count(2), 3);
        Check.due("23: drawn", x.count(6), 2);
        Check.due("23: droughts", x.count(1), 1);
        Check.due("23: requests that wait", x.count(10), 2);
    }

    /** Promise 23: "Returns how many there are in it": 0, 1, 2, 19 and 20. */
    private static void playTellsHowManyOrders() {
        for (int orders : new int[] {0, 1, 2, 19, 20}) {
            Edges.State typed = Edges.with(TWO, signs(3 * orders));
            Edges.changed("23: orders", typed, x -> x.play(), orders);
            NoonWells x = Edges.at(typed);
            x.play();
            Check.due("23: all are done", x.count(2), 1 + orders);
        }
    }

    /** Promise 23: "Does all orders of the text, which stays." */
    private static void playLeavesTheText() {
        NoonWells x = Edges.at(text("t1;d0,5;"));
        for (int times = 1; times <= 5; times++) {
            Check.due("23: once more", x.play(), 2);
            Check.due("23: the text stays", x.count(14), 8);
            Check.due("23: time", x.count(2), 1 + times);
            Check.due("23: drawn", x.count(6), 5 * times);
        }
        NoonWells faulty = Edges.at(text("t0;"));
        Check.due("23: a fault", faulty.play(), NOT);
        Check.due("23: that text stays too", faulty.clearText(), 3);
    }

    /** Texts: "from so many ticks from now on to so many ticks from now on", when it is done. */
    private static void droughtsAreFromNowOn() {
        NoonWells x = Edges.at(text("n0,1,1;t5;n1,1,3;n0,998,999;"));
        x.play();
        int[][] due = {{0, 2, 2}, {1, 7, 9}, {0, 1004, 1005}};
        for (int drought = 0; drought < due.length; drought++) {
            for (int what = 0; what <= 2; what++) {
                Check.due("Texts: drought " + drought, x.droughtOf(drought, what),
                        due[drought][what]);
            }
        }
        NoonWells last = Edges.at(text(Edges.LAST, "n0,1,999;"));
        last.play();
        Check.due("Texts: from 50001", last.droughtOf(0, 1), 50001);
        Check.due("Texts: to 50999", last.droughtOf(0, 2), 50999);
    }
}
