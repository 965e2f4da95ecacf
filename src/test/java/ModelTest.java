/** All promises: long mixed runs of calls, each answer compared with the plain model's. */
public final class ModelTest {
    private static final int CALLS = 512;
    private static final int LOOK_CALLS = 260;
    private static final String[] NAMES = {"well", "drought", "droughtOf", "wellOf", "aboveAt",
        "draw", "request", "cancel", "requestAt", "tick", "set", "able", "gives", "possibleIn",
        "waterIn", "lenders", "count", "undo", "type", "clearText", "fault", "play"};
    /** How often each call comes in runs of each kind; the last number is of whole texts. */
    private static final int[][] KINDS = {
        {12, 4, 2, 6, 2, 12, 14, 3, 3, 14, 4, 4, 4, 3, 3, 3, 4, 5, 1, 2, 3, 3, 4},
        {3, 1, 1, 6, 1, 8, 20, 4, 4, 20, 2, 3, 3, 3, 3, 4, 4, 1, 0, 0, 0, 0, 0},
        {6, 2, 1, 3, 0, 3, 4, 1, 1, 4, 2, 1, 1, 1, 1, 1, 2, 3, 1, 2, 5, 5, 14},
        {4, 12, 6, 6, 1, 4, 4, 1, 1, 14, 2, 2, 2, 4, 4, 2, 2, 4, 0, 0, 0, 0, 0},
        {20, 1, 1, 2, 4, 2, 2, 1, 1, 2, 1, 1, 1, 1, 1, 1, 1, 12, 0, 0, 0, 0, 0},
        {2, 1, 0, 1, 0, 2, 2, 0, 0, 60, 1, 0, 0, 0, 0, 0, 1, 0, 0, 1, 1, 1, 1},
    };

    private long seed;
    private NoonWells real;
    private PlainWells plain;
    private int calls;
    private int run;
    /** Numbers of a run are small or great all along, so that wells fill, and waits end. */
    private int scale;

    public static void main(String[] args) {
        ModelTest test = new ModelTest();
        for (int run = 0; run < 1500 && Check.allRight(); run++) {
            test.compareRun(run);
        }
        Check.end();
    }

    /** A sequence that is the same each time. */
    private int pick(int bound) {
        seed = seed * 6364136223846793005L + 1442695040888963407L;
        return (int) ((seed >>> 33) % bound);
    }

    private int among(int... values) {
        return values[pick(values.length)];
    }

    private void compareRun(int number) {
        run = number;
        seed = number * 7919L + 17;
        real = new NoonWells();
        plain = new PlainWells();
        calls = 0;
        scale = among(3, 12, 60, 300, 999);
        int[] kind = KINDS[number % KINDS.length];
        boolean looksAtTheEnd = number % 3 != 0;
        if (pick(8) != 0) {
            call(0, -1, 1 + pick(1000), pick(101), pick(1001));
        }
        int end = looksAtTheEnd ? CALLS - LOOK_CALLS : CALLS;
        while (calls < end && Check.allRight()) {
            next(kind);
        }
        if (looksAtTheEnd) {
            look();
        }
    }

    private void next(int[] kind) {
        int all = 0;
        for (int weight : kind) {
            all += weight;
        }
        int at = pick(all);
        int name = 0;
        while (at >= kind[name]) {
            at -= kind[name];
            name++;
        }
        if (name == NAMES.length) {
            typeText();
        } else {
            call(name, first(name), second(name), third(name), fourth());
        }
    }

    private int wild() {
        return among(Integer.MIN_VALUE, Integer.MAX_VALUE, -2, -1, 0, 1, 12, 20, 999, 1000, 1001,
                60000, 60001, 300, 301, 200, 201, 100, 101);
    }

    private int aWell() {
        int wells = plain.count(0);
        return pick(20) == 0 ? among(-1, wells, wild()) : pick(Math.max(wells, 1));
    }

    private int buckets() {
        return pick(25) == 0 ? among(0, 1000, 999, wild()) : 1 + pick(scale);
    }

    private int first(int name) {
        switch (NAMES[name]) {
            case "well": return pick(10) == 0 ? wild() : plain.count(0) == 0 ? -1 : aWell();
            case "droughtOf": return pick(10) == 0 ? wild() : pick(plain.count(1) + 1);
            case "cancel":
            case "requestAt": return pick(10) == 0 ? wild() : pick(plain.count(10) + 2);
            case "tick": return pick(20) == 0 ? wild()
                    : pick(4) == 0 ? among(1, 24, 200) : 1 + pick(30);
            case "set": return pick(20) == 0 ? wild() : pick(2);
            case "count": return pick(20) == 0 ? wild() : pick(23);
            case "type": return pick(10) == 0 ? among(31, 32, 126, 127, wild())
                    : among('t', '1', ';');
            case "fault": return pick(10) == 0 ? wild() : pick(2);
            default: return aWell();
        }
    }

    private int second(int name) {
        int time = plain.count(2);
        switch (NAMES[name]) {
            case "well": return pick(10) == 0 ? wild() : 1 + pick(Math.min(scale * 2, 1000));
            case "drought": return pick(12) == 0 ? wild() : time + pick(12);
            case "droughtOf":
            case "requestAt": return pick(10) == 0 ? wild() : pick(3);
            case "wellOf": return pick(20) == 0 ? wild() : pick(15);
            case "aboveAt": return pick(10) == 0 ? wild() : pick(6);
            case "set": return pick(10) == 0 ? wild() : pick(2) == 0 ? pick(2) : 3 + pick(99);
            case "waterIn": return pick(10) == 0 ? wild() : pick(pick(2) == 0 ? 20 : 302);
            default: return buckets();
        }
    }

    private int third(int name) {
        switch (NAMES[name]) {
            case "well": return pick(10) == 0 ? wild() : pick(Math.min(scale / 3 + 2, 101));
            case "drought": return pick(12) == 0 ? wild() : plain.count(2) + pick(50);
            default: return aWell();
        }
    }

    private int fourth() {
        return pick(10) == 0 ? wild() : pick(Math.min(scale * 2, 1001));
    }

    private void typeText() {
        StringBuilder text = new StringBuilder();
        int orders = pick(6);
        for (int i = 0; i < orders; i++) {
            switch (pick(4)) {
                case 0: text.append('d').append(number(3)).append(',').append(number(scale)); break;
                case 1: text.append('r').append(number(3)).append(',').append(number(scale)); break;
                case 2: text.append('t').append(number(40)); break;
                default: text.append('n').append(number(3)).append(',').append(number(9))
                        .append(',').append(number(30));
            }
            text.append(';');
        }
        if (pick(5) == 0 && text.length() > 0) {
            text.setCharAt(pick(text.length()), (char) (32 + pick(95)));
        }
        if (pick(8) == 0 && text.length() > 0) {
            text.deleteCharAt(pick(text.length()));
        }
        if (pick(3) != 0) {
            call(NAMES.length - 3, 0, 0, 0, 0);
        }
        for (int i = 0; i < text.length() && calls < CALLS - LOOK_CALLS; i++) {
            call(NAMES.length - 4, text.charAt(i), 0, 0, 0);
        }
    }

    private String number(int bound) {
        String digits = Integer.toString(pick(12) == 0 ? pick(1000) : pick(bound));
        return pick(10) == 0 && digits.length() < 3 ? "0" + digits : digits;
    }

    /** Compares all that can be seen of the state. */
    private void look() {
        for (int what = 0; what < 22; what++) {
            call(16, what, 0, 0, 0);
        }
        for (int well = 0; well < plain.count(0); well++) {
            for (int what = 4; what < 14; what++) {
                call(3, well, what, 0, 0);
            }
            call(11, well, 0, 0, 0);
        }
        for (int place = 1; place <= plain.count(10); place++) {
            for (int what = 0; what < 3; what++) {
                call(8, place, what, 0, 0);
            }
        }
        for (int drought = 0; drought < plain.count(1); drought++) {
            for (int what = 0; what < 3; what++) {
                call(2, drought, what, 0, 0);
            }
        }
        call(15, 0, 0, 0, 0);
        call(20, 0, 0, 0, 0);
        call(20, 1, 0, 0, 0);
        for (int i = 0; i < 5; i++) {
            call(17, 0, 0, 0, 0);
        }
        Check.holds("a run keeps to " + CALLS + " calls, not " + calls, calls <= CALLS);
    }

    private void call(int name, int a, int b, int c, int d) {
        calls++;
        String what = "run " + run + " call " + calls + ": " + NAMES[name]
                + "(" + a + ", " + b + ", " + c + ", " + d + ")";
        Check.due(what, realAnswer(NAMES[name], a, b, c, d), plainAnswer(NAMES[name], a, b, c, d));
    }

    private int realAnswer(String name, int a, int b, int c, int d) {
        switch (name) {
            case "well": return real.well(a, b, c, d);
            case "drought": return real.drought(a, b, c);
            case "droughtOf": return real.droughtOf(a, b);
            case "wellOf": return real.wellOf(a, b);
            case "aboveAt": return real.aboveAt(a, b);
            case "draw": return real.draw(a, b);
            case "request": return real.request(a, b);
            case "cancel": return real.cancel(a);
            case "requestAt": return real.requestAt(a, b);
            case "tick": return real.tick(a);
            case "set": return real.set(a, b);
            case "able": return real.able(a);
            case "gives": return real.gives(a, b, c);
            case "possibleIn": return real.possibleIn(a, b);
            case "waterIn": return real.waterIn(a, b);
            case "lenders": return real.lenders();
            case "count": return real.count(a);
            case "undo": return real.undo();
            case "type": return real.type(a);
            case "clearText": return real.clearText();
            case "fault": return real.fault(a);
            default: return real.play();
        }
    }

    private int plainAnswer(String name, int a, int b, int c, int d) {
        switch (name) {
            case "well": return plain.well(a, b, c, d);
            case "drought": return plain.drought(a, b, c);
            case "droughtOf": return plain.droughtOf(a, b);
            case "wellOf": return plain.wellOf(a, b);
            case "aboveAt": return plain.aboveAt(a, b);
            case "draw": return plain.draw(a, b);
            case "request": return plain.request(a, b);
            case "cancel": return plain.cancel(a);
            case "requestAt": return plain.requestAt(a, b);
            case "tick": return plain.tick(a);
            case "set": return plain.set(a, b);
            case "able": return plain.able(a);
            case "gives": return plain.gives(a, b, c);
            case "possibleIn": return plain.possibleIn(a, b);
            case "waterIn": return plain.waterIn(a, b);
            case "lenders": return plain.lenders();
            case "count": return plain.count(a);
            case "undo": return plain.undo();
            case "type": return plain.type(a);
            case "clearText": return plain.clearText();
            case "fault": return plain.fault(a);
            default: return plain.play();
        }
    }
}
