/** The boundary cases of promises 7 to 12: draw, request, cancel, requestAt, tick, set. */
public final class EdgesOfDrawsTest {
    private static final int BAD = Edges.BAD;
    private static final int NOT = Edges.NOT;
    private static final int LIMIT = Edges.LIMIT;
    private static final int MIN = Edges.MIN;
    private static final int MAX = Edges.MAX;

    /** A spring with 1000 buckets and a well below it with 999. */
    private static final Edges.State GREAT = x -> {
        x.well(-1, 1000, 100, 0);
        x.well(0, 999, 100, 0);
        x.tick(10);
    };

    public static void main(String[] args) {
        drawWell();
        drawBuckets();
        drawPossible();
        drawErrorsTogether();
        drawDoesNotWait();
        requestWell();
        requestBuckets();
        requestAtOnce();
        requestPlaces();
        requestLimit();
        requestErrorsTogether();
        requestIsTimed();
        cancelPlaces();
        cancelMovesThoseBehind();
        requestAtPlaces();
        requestAtWhat();
        tickTicks();
        tickUpToTheLastTime();
        tickErrorsTogether();
        tickCountsRequests();
        setDay();
        setPassing();
        setWhat();
        setTheSameValue();
        setTheDayOfNow();
        Check.end();
    }

    /** Promise 7: "well: number of the well". */
    private static void drawWell() {
        for (int well : new int[] {MIN, -1, 3, 4, 12, MAX}) {
            Edges.unchanged("7: well " + well + " of 3", Edges.FEW, x -> x.draw(well, 1), BAD);
        }
        Edges.changed("7: well 0 of 3", Edges.FEW, x -> x.draw(0, 1), 0);
        Edges.changed("7: well 2 of 3", Edges.FEW, x -> x.draw(2, 1), 0);
        Edges.unchanged("7: well 12 of 12", Edges.FULL, x -> x.draw(12, 1), BAD);
        Edges.changed("7: well 11 of 12", Edges.FULL, x -> x.draw(11, 1), 0);
    }

    /** Promise 7: "buckets: 1 to 999". */
    private static void drawBuckets() {
        for (int buckets : new int[] {MIN, -1, 0, 1000, 1001, MAX}) {
            Edges.unchanged("7: " + buckets + " buckets", GREAT, x -> x.draw(0, buckets), BAD);
            Edges.unchanged("7: " + buckets + " buckets", Edges.FEW, x -> x.draw(2, buckets), BAD);
        }
        for (int buckets : new int[] {1, 2, 998, 999}) {
            Edges.changed("7: " + buckets + " buckets", GREAT, x -> x.draw(0, buckets), 0);
            Edges.changed("7: " + buckets + " buckets", GREAT, x -> x.draw(1, buckets), 0);
            NoonWells x = Edges.at(GREAT);
            x.draw(0, buckets);
            Check.due("7: what is left", x.wellOf(0, 4), 1000 - buckets);
        }
    }

    /** Promise 7: "NOT_POSSIBLE if the draw is not possible"; a well without water. */
    private static void drawPossible() {
        Edges.State dry = x -> x.well(-1, 10, 1, 10);
        Edges.unchanged("7: 1 of 0", dry, x -> x.draw(0, 1), NOT);
        Edges.State one = Edges.with(dry, x -> x.tick(1));
        Edges.changed("7: 1 of 1", one, x -> x.draw(0, 1), 0);
        Edges.unchanged("7: 2 of 1", one, x -> x.draw(0, 2), NOT);
        Edges.unchanged("7: 999 of 998", Edges.with(GREAT, x -> x.draw(1, 1)),
                x -> x.draw(1, 999), NOT);
        // Well 2 has 19 buckets, and the spring has more than its burst of 30.
        Edges.changed("7: 49 of 49", Edges.FEW, x -> x.draw(2, 49), 30);
        Edges.unchanged("7: 50 of 49", Edges.FEW, x -> x.draw(2, 50), NOT);
        Edges.unchanged("7: 999 of 49", Edges.FEW, x -> x.draw(2, 999), NOT);
    }

    /** Errors: "INVALID_ARGUMENT is returned rather than NOT_POSSIBLE". */
    private static void drawErrorsTogether() {
        Edges.State dry = x -> x.well(-1, 10, 1, 10);
        Edges.unchanged("7: 0 of none", dry, x -> x.draw(0, 0), BAD);
        Edges.unchanged("7: 1000 of none", dry, x -> x.draw(0, 1000), BAD);
        Edges.unchanged("7: of well 1", dry, x -> x.draw(1, 999), BAD);
        Edges.unchanged("7: of well -1", dry, x -> x.draw(-1, 999), BAD);
    }

    /** Requests: only "a request" waits; a draw is made now, whatever waits. */
    private static void drawDoesNotWait() {
        Edges.changed("7: a draw while two wait", Edges.FEW, x -> x.draw(1, 3), 0);
        Edges.changed("7: a draw while eight wait", Edges.FULL, x -> x.draw(0, 1), 0);
    }

    /** Promise 8: "well: number of the well". */
    private static void requestWell() {
        for (int well : new int[] {MIN, -1, 3, 4, 12, MAX}) {
            Edges.unchanged("8: well " + well + " of 3", Edges.FEW, x -> x.request(well, 1), BAD);
        }
        Edges.changed("8: well 0 of 3", Edges.FEW, x -> x.request(0, 1), 3);
        Edges.changed("8: well 2 of 3", Edges.FEW, x -> x.request(2, 1), 3);
    }

    /** Promise 8: "buckets: 1 to 999". */
    private static void requestBuckets() {
        for (int buckets : new int[] {MIN, -1, 0, 1000, 1001, MAX}) {
            Edges.unchanged("8: " + buckets, GREAT, x -> x.request(0, buckets), BAD);
            Edges.unchanged("8: " + buckets, Edges.FEW, x -> x.request(0, buckets), BAD);
        }
        for (int buckets : new int[] {1, 2, 998, 999}) {
            Edges.changed("8: " + buckets, GREAT, x -> x.request(0, buckets), 0);
            Edges.changed("8: " + buckets, Edges.FEW, x -> x.request(0, buckets), 3);
            NoonWells x = Edges.at(Edges.FEW);
            x.request(0, buckets);
            Check.due("8: its buckets", x.requestAt(3, 1), buckets);
        }
    }

    /** Requests: "made at once, if it is possible and no request waits; otherwise it waits". */
    private static void requestAtOnce() {
        Edges.State none = x -> {
            x.well(-1, 100, 10, 0);
            x.tick(1);
        };
        Edges.State one = Edges.with(none, x -> x.request(0, 11));
        Edges.State noMore = Edges.with(one, x -> x.cancel(1));
        Edges.changed("8: 9 of 10, none waits", none, x -> x.request(0, 9), 0);
        Edges.changed("8: 10 of 10, none waits", none, x -> x.request(0, 10), 0);
        Edges.changed("8: 11 of 10, none waits", none, x -> x.request(0, 11), 1);
        Edges.changed("8: 1 of 10, one waits", one, x -> x.request(0, 1), 2);
        Edges.changed("8: 11 of 10, one waits", one, x -> x.request(0, 11), 2);
        Edges.changed("8: 1 of 10, none waits any more", noMore, x -> x.request(0, 1), 0);
        Edges.changed("8: 1 of 10, one waits, to be passed over",
                Edges.with(one, x -> x.set(1, 1)), x -> x.request(0, 1), 2);
        NoonWells x = Edges.at(none);
        x.request(0, 10);
        Check.due("8: drawn at once", x.count(6), 10);
        Check.due("8: drawn at once is not behind waiting", x.count(11), 0);
        Check.due("8: it does not wait", x.count(10), 0);
        NoonWells y = Edges.at(one);
        y.request(0, 1);
        Check.due("8: what waits is not drawn", y.count(6), 0);
        Check.due("8: water is as it was", y.wellOf(0, 4), 10);
    }

    private static Edges.State waiting(int many) {
        return x -> {
            x.well(-1, 100, 10, 0);
            x.tick(1);
            for (int i = 0; i < many; i++) {
                x.request(0, 901 + i);
            }
        };
    }

    /** Promise 8: "its place in the row, from 1", up to 8. */
    private static void requestPlaces() {
        for (int many = 0; many < 8; many++) {
            Edges.changed("8: place behind " + many, waiting(many), x -> x.request(0, 500),
                    many + 1);
        }
    }

    /** Promise 8: "LIMIT_REACHED if it has to wait and 8 wait"; Requests: "at most 8 wait". */
    private static void requestLimit() {
        Edges.changed("8: not possible, 7 wait", waiting(7), x -> x.request(0, 11), 8);
        Edges.unchanged("8: not possible, 8 wait", waiting(8), x -> x.request(0, 11), LIMIT);
        Edges.unchanged("8: possible, but 8 wait", waiting(8), x -> x.request(0, 10), LIMIT);
        Edges.unchanged("8: the smallest, 8 wait", waiting(8), x -> x.request(0, 1), LIMIT);
        Edges.unchanged("8: the greatest, 8 wait", Edges.FULL, x -> x.request(11, 999), LIMIT);
        Edges.changed("8: one was cancelled", Edges.with(waiting(8), x -> x.cancel(8)),
                x -> x.request(0, 1), 8);
        NoonWells x = Edges.at(Edges.NEW);
        x.well(-1, 100, 10, 0);
        for (int i = 0; i < 8; i++) {
            x.request(0, 2);
        }
        Check.due("8: 8 wait", x.request(0, 2), LIMIT);
        Check.due("8: 5 of them are drawn", x.tick(1), 5);
        Check.due("8: there are places again", x.request(0, 2), 4);
    }

    /** Errors: "INVALID_ARGUMENT is returned rather than" LIMIT_REACHED. */
    private static void requestErrorsTogether() {
        Edges.unchanged("8: full, 0 buckets", waiting(8), x -> x.request(0, 0), BAD);
        Edges.unchanged("8: full, 1000 buckets", waiting(8), x -> x.request(0, 1000), BAD);
        Edges.unchanged("8: full, well 1", waiting(8), x -> x.request(1, 1), BAD);
        Edges.unchanged("8: full, well -1", waiting(8), x -> x.request(-1, 1), BAD);
    }

    /** Promise 10: "2: the time when it was made": the first time, and the last. */
    private static void requestIsTimed() {
        NoonWells x = Edges.at(Edges.NEW);
        x.well(-1, 10, 1, 0);
        x.request(0, 999);
        Check.due("10: made at 0", x.requestAt(1, 2), 0);
        x.tick(1);
        x.request(0, 999);
        Check.due("10: made at 1", x.requestAt(2, 2), 1);
        Check.due("10: made at 0, still", x.requestAt(1, 2), 0);
        NoonWells last = Edges.at(Edges.LAST);
        last.request(0, 999);
        Check.due("10: made at 50000", last.requestAt(1, 2), 50000);
    }

    /** Promise 9: "place: its place, from 1"; "INVALID_ARGUMENT if there is no such place". */
    private static void cancelPlaces() {
        for (int many = 0; many <= 8; many++) {
            for (int place : new int[] {MIN, -1, 0, many + 1, many + 2, 9, MAX}) {
                Edges.unchanged("9: place " + place + " of " + many, waiting(many),
                        x -> x.cancel(place), BAD);
            }
            for (int place = 1; place <= many; place++) {
                int told = place;
                Edges.changed("9: place " + place + " of " + many, waiting(many),
                        x -> x.cancel(told), 900 + place);
            }
        }
    }

    /** Requests of three wells, one a tick, that are never possible. */
    private static NoonWells rowOfThreeWells(int many) {
        NoonWells x = Edges.at(Edges.NEW);
        x.well(-1, 100, 10, 0);
        x.well(0, 100, 10, 0);
        x.well(0, 100, 10, 0);
        for (int i = 0; i < many; i++) {
            x.request(i % 3, 901 + i);
            x.tick(1);
        }
        return x;
    }

    /** Promise 9: "Takes a request that waits out of the row": the first, the last, each one. */
    private static void cancelMovesThoseBehind() {
        for (int many = 1; many <= 8; many++) {
            for (int place = 1; place <= many; place++) {
                NoonWells x = rowOfThreeWells(many);
                x.cancel(place);
                Check.due("9: how many are left", x.count(10), many - 1);
                for (int i = 1; i < many; i++) {
                    int was = i < place ? i - 1 : i;
                    String at = "9: " + place + " of " + many + " out, place " + i;
                    Check.due(at + ", well", x.requestAt(i, 0), was % 3);
                    Check.due(at + ", buckets", x.requestAt(i, 1), 901 + was);
                    Check.due(at + ", time", x.requestAt(i, 2), was);
                }
                Check.due("9: none at the end", x.requestAt(many, 1), BAD);
                Check.due("9: nothing was drawn", x.count(11), 0);
                Check.due("9: the next place", x.request(0, 999), many);
            }
        }
    }

    /** Promise 10: "INVALID_ARGUMENT if there is no such place". */
    private static void requestAtPlaces() {
        for (int many : new int[] {0, 1, 7, 8}) {
            for (int place : new int[] {MIN, -1, 0, many + 1, many + 2, 9, MAX}) {
                for (int what = 0; what <= 2; what++) {
                    int told = what;
                    Edges.unchanged("10: place " + place + " of " + many, waiting(many),
                            x -> x.requestAt(place, told), BAD);
                }
            }
            if (many > 0) {
                Edges.unchanged("10: place 1 of " + many, waiting(many),
                        x -> x.requestAt(1, 1), 901);
                Edges.unchanged("10: the last of " + many, waiting(many),
                        x -> x.requestAt(many, 1), 900 + many);
            }
        }
    }

    /** Promise 10: "or what is out of range". */
    private static void requestAtWhat() {
        for (int what : new int[] {MIN, -1, 3, 4, MAX}) {
            Edges.unchanged("10: what " + what, Edges.FEW, x -> x.requestAt(1, what), BAD);
            Edges.unchanged("10: what " + what, Edges.FULL, x -> x.requestAt(8, what), BAD);
        }
        Edges.unchanged("10: what 0", Edges.FEW, x -> x.requestAt(2, 0), 1);
        Edges.unchanged("10: what 1", Edges.FEW, x -> x.requestAt(2, 1), 3);
        Edges.unchanged("10: what 2", Edges.FEW, x -> x.requestAt(2, 2), 9);
    }

    /** Promise 11: "ticks: 1 to 200". */
    private static void tickTicks() {
        for (int ticks : new int[] {MIN, -1, 0, 201, 202, MAX - 9, MAX}) {
            for (Edges.State state : Edges.ALL) {
                Edges.unchanged("11: " + ticks, state, x -> x.tick(ticks), BAD);
            }
        }
        for (int ticks : new int[] {1, 2, 199, 200}) {
            Edges.changed("11: " + ticks, Edges.NEW, x -> x.tick(ticks), 0);
            NoonWells x = Edges.at(Edges.FEW);
            x.tick(ticks);
            Check.due("11: time behind " + ticks, x.count(2), 9 + ticks);
            Check.due("11: one change", x.count(13), 4);
            x.undo();
            Check.due("11: undone", x.count(2), 9);
        }
    }

    /** Promise 11: "LIMIT_REACHED if the time would be above 50000." */
    private static void tickUpToTheLastTime() {
        int[][] due = {{49799, 200, 0}, {49800, 199, 0}, {49800, 200, 0}, {49801, 199, 0},
            {49801, 200, LIMIT}, {49998, 1, 0}, {49998, 2, 0}, {49998, 3, LIMIT}, {49999, 1, 0},
            {49999, 2, LIMIT}, {49999, 200, LIMIT}, {50000, 1, LIMIT}, {50000, 2, LIMIT},
            {50000, 200, LIMIT}};
        for (int[] row : due) {
            String at = "11: at " + row[0] + ", " + row[1] + " ticks";
            if (row[2] == LIMIT) {
                Edges.unchanged(at, Edges.late(row[0]), x -> x.tick(row[1]), LIMIT);
            } else {
                Edges.changed(at, Edges.late(row[0]), x -> x.tick(row[1]), 0);
            }
        }
        NoonWells x = Edges.at(Edges.late(49999));
        x.tick(1);
        Check.due("11: the last time", x.count(2), 50000);
        Check.due("11: its next noon", x.count(12), 24 - 50000 % 24);
    }

    /** Errors: "INVALID_ARGUMENT is returned rather than" LIMIT_REACHED. */
    private static void tickErrorsTogether() {
        for (int ticks : new int[] {MIN, -1, 0, 201, MAX}) {
            Edges.unchanged("11: late, " + ticks, Edges.LAST, x -> x.tick(ticks), BAD);
            Edges.unchanged("11: late, " + ticks, Edges.late(49900), x -> x.tick(ticks), BAD);
        }
    }

    /** Promise 11: "how many requests are drawn in them": none, some, and all eight in one tick. */
    private static void tickCountsRequests() {
        NoonWells x = Edges.at(Edges.NEW);
        x.well(-1, 100, 16, 0);
        Check.due("11: none waits", x.tick(1), 0);
        x.draw(0, 16);
        for (int i = 0; i < 8; i++) {
            x.request(0, 2);
        }
        Check.due("11: all eight", x.tick(1), 8);
        Check.due("11: behind waiting", x.count(11), 8);
        Check.due("11: none waits any more", x.tick(1), 0);
        Check.due("11: behind waiting, still", x.count(11), 8);
        x.request(0, 20);
        Check.due("11: one", x.tick(200), 1);
        Check.due("11: behind waiting, nine", x.count(11), 9);
    }

    /** Promise 12: "a value in its range"; Settings: "0 the day (4 to 100; 24)". */
    private static void setDay() {
        for (int day : new int[] {MIN, -1, 0, 1, 2, 3, 101, 102, MAX}) {
            Edges.unchanged("12: day " + day, Edges.NEW, x -> x.set(0, day), BAD);
            Edges.unchanged("12: day " + day, Edges.FEW, x -> x.set(0, day), BAD);
        }
        for (int day : new int[] {4, 5, 23, 24, 25, 99, 100}) {
            Edges.changed("12: day " + day, Edges.NEW, x -> x.set(0, day), 24);
            Edges.changed("12: day " + day, Edges.FEW, x -> x.set(0, day), 8);
            NoonWells x = Edges.at(Edges.NEW);
            x.set(0, day);
            Check.due("12: the day told", x.count(20), day);
            Check.due("12: the next noon", x.count(12), day);
            Check.due("12: what it was", x.set(0, 24), day);
        }
    }

    /** Settings: "1 passing over (0 or 1; 0)". */
    private static void setPassing() {
        for (int passing : new int[] {MIN, -1, 2, 3, 24, MAX}) {
            Edges.unchanged("12: passing " + passing, Edges.NEW, x -> x.set(1, passing), BAD);
            Edges.unchanged("12: passing " + passing, Edges.FULL, x -> x.set(1, passing), BAD);
        }
        for (int passing : new int[] {0, 1}) {
            Edges.changed("12: passing " + passing, Edges.NEW, x -> x.set(1, passing), 0);
            Edges.changed("12: passing " + passing, Edges.FULL, x -> x.set(1, passing), 1);
            NoonWells x = Edges.at(Edges.NEW);
            x.set(1, passing);
            Check.due("12: passing told", x.count(21), passing);
        }
    }

    /** Promise 12: "what: 0 or 1". */
    private static void setWhat() {
        for (int what : new int[] {MIN, -1, 2, 3, 20, 21, MAX}) {
            for (int value : new int[] {0, 1, 4, 24, 100}) {
                Edges.unchanged("12: what " + what, Edges.FEW, x -> x.set(what, value), BAD);
            }
        }
        Edges.unchanged("12: a passing for the day", Edges.FEW, x -> x.set(0, 1), BAD);
        Edges.unchanged("12: a day for passing", Edges.FEW, x -> x.set(1, 24), BAD);
    }

    /** Changes: "set ... that return no error": also with the value that was. */
    private static void setTheSameValue() {
        Edges.changed("12: the same day", Edges.NEW, x -> x.set(0, 24), 24);
        Edges.changed("12: the same passing", Edges.NEW, x -> x.set(1, 0), 0);
        NoonWells x = Edges.at(Edges.NEW);
        x.set(0, 24);
        Check.due("12: the same day is one change", x.count(13), 1);
    }

    /** Settings: the day counts from the time 0, whenever it is set: noon at multiples of it. */
    private static void setTheDayOfNow() {
        NoonWells x = Edges.at(Edges.NEW);
        x.well(-1, 100, 0, 0);
        x.well(0, 10, 10, 0);
        x.tick(9);
        x.set(0, 5);
        Check.due("12: at 9 by a day of 5", x.count(12), 1);
        x.tick(1);
        Check.due("12: noon at 10", x.count(7), 5);
        x.set(0, 100);
        x.set(0, 10);
        Check.due("12: setting makes no noon", x.count(7), 5);
        Check.due("12: at 10 by a day of 10", x.count(12), 10);
    }
}
