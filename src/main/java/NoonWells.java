import java.util.Arrays;

/**
 * Wells within wells: a tree of wells with flows, capacities and bursts, draws, lending at noon,
 * droughts, requests that wait, forecasts, accounts, and orders as texts.
 */
public final class NoonWells {
    /** An argument is out of its range, or there is no such well or drought. */
    public static final int INVALID_ARGUMENT = -1;
    /** The call is not possible in the present state. */
    public static final int NOT_POSSIBLE = -2;
    /** A fixed limit has been reached. */
    public static final int LIMIT_REACHED = -3;
    /** There is no such value. */
    public static final int NOT_FOUND = -4;

    private static final int MAX_WELLS = 12;
    private static final int MAX_CAPACITY = 1000;
    private static final int MAX_FLOW = 100;
    private static final int MAX_BURST = 1000;
    private static final int MAX_DROUGHTS = 20;
    private static final int MAX_DROUGHT_TIME = 60000;
    private static final int MAX_BUCKETS = 999;
    private static final int ALL_BUCKETS = MAX_WELLS * MAX_CAPACITY;
    private static final int MAX_WAITING = 8;
    private static final int MAX_TICKS = 200;
    private static final int MAX_TIME = 50000;
    private static final int MAX_FORECAST = 300;
    private static final int MAX_HISTORY = 4;
    private static final int MAX_TEXT = 60;
    private static final int MAX_DIGITS = 3;
    private static final int MAX_NUMBERS = 3;
    private static final int FIRST_SIGN = 32;
    private static final int LAST_SIGN = 126;

    private static final int NO_WELL = -1;
    private static final int SPRING = 0;

    // The rows of the wells are numbered as wellOf numbers them.
    private static final int ABOVE = 0;
    private static final int CAPACITY = 1;
    private static final int FLOW = 2;
    private static final int BURST = 3;
    private static final int WATER = 4;
    private static final int CLAIM = 5;
    private static final int FLOWED_IN = 6;
    private static final int SPILLED = 7;
    private static final int GIVEN_TO_ITSELF = 8;
    private static final int GIVEN_TO_OTHERS = 9;
    private static final int GOT_AT_NOON = 10;
    private static final int GOT_BACK = 11;
    private static final int BELOW = 12;
    private static final int WELL_ROWS = 13;
    private static final int DRY_NEXT = 13;

    // The rows of the droughts are numbered as droughtOf numbers them.
    private static final int DROUGHT_WELL = 0;
    private static final int DROUGHT_FROM = 1;
    private static final int DROUGHT_TO = 2;
    private static final int DROUGHT_ROWS = 3;

    // The rows of the requests are numbered as requestAt numbers them.
    private static final int REQUEST_WELL = 0;
    private static final int REQUEST_BUCKETS = 1;
    private static final int REQUEST_TIME = 2;
    private static final int REQUEST_ROWS = 3;

    private static final int DAY = 0;
    private static final int PASSING = 1;
    private static final int SETTINGS = 2;
    private static final int MIN_DAY = 4;
    private static final int MAX_DAY = 100;
    private static final int FIRST_DAY = 24;

    private static final int NO_FAULT = 0;
    private static final int BAD_FORM = 1;
    private static final int BAD_ARGUMENT = 2;
    private static final int BAD_OTHERWISE = 3;

    private final Field now;
    private final Field trial;
    private final History history;
    private final Script script;

    /** Creates a field without wells. */
    public NoonWells() {
        now = new Field();
        trial = new Field();
        history = new History();
        script = new Script();
    }

    // ---- wells, droughts

    /** Adds a well without water and returns its number. */
    public int well(int above, int capacity, int flow, int burst) {
        history.note(now);
        return keepIfDone(now.addWell(above, capacity, flow, burst));
    }

    /** Tells a drought and returns its number. */
    public int drought(int well, int from, int to) {
        history.note(now);
        return keepIfDone(now.addDrought(well, from, to));
    }

    /** Returns something of a drought. */
    public int droughtOf(int drought, int what) {
        if (drought < 0 || drought >= now.droughtCount || what < 0 || what >= DROUGHT_ROWS) {
            return INVALID_ARGUMENT;
        }
        return now.droughts[what][drought];
    }

    /** Returns something of a well. */
    public int wellOf(int well, int what) {
        if (!now.isWell(well) || what < 0 || what > DRY_NEXT) {
            return INVALID_ARGUMENT;
        }
        if (what == DRY_NEXT) {
            return now.isDry(well, now.time + 1) ? 1 : 0;
        }
        if (what == ABOVE && well == SPRING) {
            return NOT_FOUND;
        }
        return now.wells[what][well];
    }

    /** Returns a well above a well. */
    public int aboveAt(int well, int index) {
        if (!now.isWell(well) || index < 0) {
            return INVALID_ARGUMENT;
        }
        int found = now.wellAbove(well, index);
        return found == NO_WELL ? NOT_FOUND : found;
    }

    // ---- draws, requests

    /** Draws buckets and returns how many of them come from wells above. */
    public int draw(int well, int buckets) {
        history.note(now);
        return keepIfDone(now.takeDraw(well, buckets));
    }

    /** Makes a request and returns 0 if it is drawn at once, otherwise its place in the row. */
    public int request(int well, int buckets) {
        history.note(now);
        return keepIfDone(now.takeRequest(well, buckets));
    }

    /** Takes a request that waits out of the row and returns its buckets. */
    public int cancel(int place) {
        history.note(now);
        return keepIfDone(now.dropRequest(place));
    }

    /** Returns something of a request that waits. */
    public int requestAt(int place, int what) {
        if (!now.isPlace(place) || what < 0 || what >= REQUEST_ROWS) {
            return INVALID_ARGUMENT;
        }
        return now.requests[what][place - 1];
    }

    /** Lets ticks go by and returns how many requests are drawn in them. */
    public int tick(int ticks) {
        history.note(now);
        return keepIfDone(now.passTicks(ticks));
    }

    /** Sets a setting and returns what it was. */
    public int set(int what, int value) {
        history.note(now);
        return keepIfDone(now.changeSetting(what, value));
    }

    // ---- what would be, which changes nothing

    /** Returns the most buckets that could be drawn from a well now. */
    public int able(int well) {
        return now.isWell(well) ? now.shareOut(well, ALL_BUCKETS) : INVALID_ARGUMENT;
    }

    /** Returns what a well would give to a draw from another one or from itself. */
    public int gives(int well, int buckets, int giver) {
        if (!now.isWell(well) || !areBuckets(buckets) || !now.isWell(giver)) {
            return INVALID_ARGUMENT;
        }
        return now.shareOut(well, buckets) == buckets ? now.shares[giver] : NOT_POSSIBLE;
    }

    /** Tells in how many ticks a draw would be possible. */
    public int possibleIn(int well, int buckets) {
        if (!now.isWell(well) || !areBuckets(buckets)) {
            return INVALID_ARGUMENT;
        }
        trial.copyFrom(now);
        for (int ticks = 0; ticks <= MAX_FORECAST; ticks++) {
            if (trial.shareOut(well, buckets) == buckets) {
                return ticks;
            }
            trial.passTick();
        }
        return NOT_FOUND;
    }

    /** Tells the water of a well behind some ticks. */
    public int waterIn(int well, int ticks) {
        if (!now.isWell(well) || ticks < 0 || ticks > MAX_FORECAST) {
            return INVALID_ARGUMENT;
        }
        trial.copyFrom(now);
        for (int passed = 0; passed < ticks; passed++) {
            trial.passTick();
        }
        return trial.wells[WATER][well];
    }

    /** Returns the set of the wells that would lend something, if it were noon now. */
    public int lenders() {
        trial.copyFrom(now);
        return trial.lendAtNoon();
    }

    // ---- accounts

    /** Returns a number. */
    public int count(int what) {
        switch (what) {
            case 0: return now.wellCount;
            case 1: return now.droughtCount;
            case 2: return now.time;
            case 3: return now.sumOf(WATER);
            case 4: return now.sumOf(FLOWED_IN);
            case 5: return now.sumOf(SPILLED);
            case 6: return now.sumOf(GIVEN_TO_ITSELF) + now.sumOf(GIVEN_TO_OTHERS);
            case 7: return now.sumOf(GOT_AT_NOON);
            case 8: return now.sumOf(GOT_BACK);
            case 9: return now.sumOf(CLAIM);
            case 10: return now.waiting;
            case 11: return now.drawnBehindWaiting;
            case 12: return now.settings[DAY] - now.timeOfDay();
            case 13: return history.size;
            case 14: return script.length;
            case 20: return now.settings[DAY];
            case 21: return now.settings[PASSING];
            default: return INVALID_ARGUMENT;
        }
    }

    /** Restores the latest state of the history and returns the number of states left in it. */
    public int undo() {
        if (history.size == 0) {
            return NOT_POSSIBLE;
        }
        history.giveBack(now);
        return history.size;
    }

    // ---- texts

    /** Appends a character to the text and returns the length of the text. */
    public int type(int character) {
        if (character < FIRST_SIGN || character > LAST_SIGN) {
            return INVALID_ARGUMENT;
        }
        return script.append((char) character) ? script.length : LIMIT_REACHED;
    }

    /** Empties the text and returns the length it had. */
    public int clearText() {
        int had = script.length;
        script.length = 0;
        return had;
    }

    /** Tells about the fault of the text. */
    public int fault(int what) {
        if (what != 0 && what != 1) {
            return INVALID_ARGUMENT;
        }
        trial.copyFrom(now);
        script.runOn(trial);
        if (script.reason == NO_FAULT) {
            return NOT_FOUND;
        }
        return what == 0 ? script.faultAt : script.reason;
    }

    /** Does all orders of the text as one change and returns how many there are in it. */
    public int play() {
        history.note(now);
        trial.copyFrom(now);
        script.runOn(trial);
        if (script.reason != NO_FAULT) {
            return NOT_POSSIBLE;
        }
        now.copyFrom(trial);
        return keepIfDone(script.orders);
    }

    /** A change whose answer is no error makes the state noted ahead of it one of the history. */
    private int keepIfDone(int answer) {
        if (answer >= 0) {
            history.keep();
        }
        return answer;
    }

    private static boolean areBuckets(int buckets) {
        return buckets >= 1 && buckets <= MAX_BUCKETS;
    }

    /** All that undo restores. Each of its changes either answers an error or is done whole. */
    private static final class Field {
        private final int[][] wells = new int[WELL_ROWS][MAX_WELLS];
        private final int[][] droughts = new int[DROUGHT_ROWS][MAX_DROUGHTS];
        private final int[][] requests = new int[REQUEST_ROWS][MAX_WAITING];
        private final int[] settings = new int[SETTINGS];
        private final int[] shares = new int[MAX_WELLS];
        private int wellCount;
        private int droughtCount;
        private int waiting;
        private int time;
        private int drawnBehindWaiting;

        Field() {
            settings[DAY] = FIRST_DAY;
        }

        void copyFrom(Field other) {
            copyRows(other.wells, wells);
            copyRows(other.droughts, droughts);
            copyRows(other.requests, requests);
            settings[DAY] = other.settings[DAY];
            settings[PASSING] = other.settings[PASSING];
            wellCount = other.wellCount;
            droughtCount = other.droughtCount;
            waiting = other.waiting;
            time = other.time;
            drawnBehindWaiting = other.drawnBehindWaiting;
        }

        private static void copyRows(int[][] from, int[][] to) {
            for (int row = 0; row < from.length && row < to.length; row++) {
                int elements = Math.min(from[row].length, to[row].length);
                System.arraycopy(from[row], 0, to[row], 0, elements);
            }
        }

        boolean isWell(int well) {
            return well >= 0 && well < wellCount;
        }

        boolean isPlace(int place) {
            return place >= 1 && place <= waiting;
        }

        int sumOf(int row) {
            int sum = 0;
            for (int well = 0; well < wellCount; well++) {
                sum += wells[row][well];
            }
            return sum;
        }

        int timeOfDay() {
            int day = settings[DAY];
            return day > 0 ? time % day : 0;
        }

        int addWell(int above, int capacity, int flow, int burst) {
            boolean fits = wellCount == 0 ? above == NO_WELL : isWell(above);
            if (!fits || capacity < 1 || capacity > MAX_CAPACITY
                    || flow < 0 || flow > MAX_FLOW || burst < 0 || burst > MAX_BURST) {
                return INVALID_ARGUMENT;
            }
            if (wellCount >= MAX_WELLS) {
                return LIMIT_REACHED;
            }
            wells[ABOVE][wellCount] = above;
            wells[CAPACITY][wellCount] = capacity;
            wells[FLOW][wellCount] = flow;
            wells[BURST][wellCount] = burst;
            if (isWell(above)) {
                wells[BELOW][above]++;
            }
            return wellCount++;
        }

        /** The well above a well by an index from 0, or NO_WELL if there are not so many. */
        int wellAbove(int well, int index) {
            int steps = Math.min(index, MAX_WELLS);
            int found = wells[ABOVE][well];
            for (int step = 0; step < steps && isWell(found); step++) {
                found = wells[ABOVE][found];
            }
            return found;
        }

        int addDrought(int well, int from, int to) {
            if (!isWell(well) || from <= time || from > MAX_DROUGHT_TIME
                    || to < from || to > MAX_DROUGHT_TIME) {
                return INVALID_ARGUMENT;
            }
            if (droughtCount >= MAX_DROUGHTS) {
                return LIMIT_REACHED;
            }
            droughts[DROUGHT_WELL][droughtCount] = well;
            droughts[DROUGHT_FROM][droughtCount] = from;
            droughts[DROUGHT_TO][droughtCount] = to;
            return droughtCount++;
        }

        boolean isDry(int well, int moment) {
            return (dryWells(moment) >> well & 1) == 1;
        }

        /** The set of the wells that have a drought at a moment. */
        private int dryWells(int moment) {
            int dry = 0;
            for (int drought = 0; drought < droughtCount; drought++) {
                if (droughts[DROUGHT_FROM][drought] <= moment
                        && moment <= droughts[DROUGHT_TO][drought]) {
                    dry |= 1 << droughts[DROUGHT_WELL][drought];
                }
            }
            return dry;
        }

        /**
         * Shares a draw out among its givers, as far as they go, and returns what they have for it
         * together: the draw is possible if this is all of its buckets.
         */
        int shareOut(int well, int buckets) {
            Arrays.fill(shares, 0);
            int left = buckets;
            int giver = well;
            for (int step = 0; step < MAX_WELLS && isWell(giver); step++) {
                int water = wells[WATER][giver];
                int most = giver == well ? water : Math.min(water, wells[BURST][giver]);
                shares[giver] = Math.min(left, most);
                left -= shares[giver];
                giver = wells[ABOVE][giver];
            }
            return buckets - left;
        }

        /** Takes the shares of a draw that was just shared out, and returns what was lent. */
        private int pourShares(int well) {
            int lent = 0;
            for (int giver = 0; giver < wellCount; giver++) {
                int share = shares[giver];
                wells[WATER][giver] -= share;
                if (giver == well) {
                    wells[GIVEN_TO_ITSELF][giver] += share;
                } else {
                    wells[GIVEN_TO_OTHERS][giver] += share;
                    lent += share;
                }
            }
            return lent;
        }

        int takeDraw(int well, int buckets) {
            if (!isWell(well) || !areBuckets(buckets)) {
                return INVALID_ARGUMENT;
            }
            return shareOut(well, buckets) == buckets ? pourShares(well) : NOT_POSSIBLE;
        }

        int takeRequest(int well, int buckets) {
            if (!isWell(well) || !areBuckets(buckets)) {
                return INVALID_ARGUMENT;
            }
            if (waiting == 0 && shareOut(well, buckets) == buckets) {
                pourShares(well);
                return 0;
            }
            if (waiting >= MAX_WAITING) {
                return LIMIT_REACHED;
            }
            requests[REQUEST_WELL][waiting] = well;
            requests[REQUEST_BUCKETS][waiting] = buckets;
            requests[REQUEST_TIME][waiting] = time;
            waiting++;
            return waiting;
        }

        int dropRequest(int place) {
            if (!isPlace(place)) {
                return INVALID_ARGUMENT;
            }
            int buckets = requests[REQUEST_BUCKETS][place - 1];
            for (int behind = place; behind < waiting; behind++) {
                moveRequest(behind, behind - 1);
            }
            waiting--;
            return buckets;
        }

        private void moveRequest(int from, int to) {
            for (int row = 0; row < REQUEST_ROWS; row++) {
                requests[row][to] = requests[row][from];
            }
        }

        int changeSetting(int what, int value) {
            boolean fits = what == DAY ? value >= MIN_DAY && value <= MAX_DAY
                    : what == PASSING && (value == 0 || value == 1);
            if (!fits) {
                return INVALID_ARGUMENT;
            }
            int was = settings[what];
            settings[what] = value;
            return was;
        }

        int passTicks(int ticks) {
            if (ticks < 1 || ticks > MAX_TICKS) {
                return INVALID_ARGUMENT;
            }
            if (time + ticks > MAX_TIME) {
                return LIMIT_REACHED;
            }
            int drawn = 0;
            for (int passed = 0; passed < ticks; passed++) {
                drawn += passTick();
            }
            return drawn;
        }

        /** Lets one tick go by, without a limit of time, for forecasts may look beyond it. */
        int passTick() {
            time++;
            flowIn();
            if (timeOfDay() == 0) {
                lendAtNoon();
            } else if (timeOfDay() == settings[DAY] / 2) {
                payBackInEvening();
            }
            return serveWaiting();
        }

        private void flowIn() {
            int dry = dryWells(time);
            for (int well = 0; well < wellCount; well++) {
                if ((dry >> well & 1) == 0) {
                    int flow = wells[FLOW][well];
                    int taken = Math.min(flow, roomIn(well));
                    wells[WATER][well] += taken;
                    wells[FLOWED_IN][well] += taken;
                    wells[SPILLED][well] += flow - taken;
                }
            }
        }

        private int roomIn(int well) {
            return wells[CAPACITY][well] - wells[WATER][well];
        }

        /** Lets the wells lend upward and returns the set of those that lent something. */
        int lendAtNoon() {
            int lenders = 0;
            for (int well = wellCount - 1; well > SPRING; well--) {
                int above = wells[ABOVE][well];
                int more = wells[WATER][well] - wells[CAPACITY][well] / 2;
                int lent = isWell(above) ? Math.min(more, roomIn(above)) : 0;
                if (lent > 0) {
                    wells[WATER][well] -= lent;
                    wells[WATER][above] += lent;
                    wells[CLAIM][well] += lent;
                    wells[GOT_AT_NOON][above] += lent;
                    lenders |= 1 << well;
                }
            }
            return lenders;
        }

        private void payBackInEvening() {
            for (int payer = 0; payer < wellCount; payer++) {
                for (int well = payer + 1; well < wellCount; well++) {
                    if (wells[ABOVE][well] == payer) {
                        payBack(payer, well);
                    }
                }
            }
        }

        private void payBack(int payer, int well) {
            int paid = Math.min(wells[CLAIM][well], Math.min(wells[WATER][payer], roomIn(well)));
            wells[WATER][payer] -= paid;
            wells[WATER][well] += paid;
            wells[CLAIM][well] -= paid;
            wells[GOT_BACK][well] += paid;
        }

        /** Looks at the requests that wait and returns how many of them are drawn. */
        private int serveWaiting() {
            int kept = 0;
            boolean isTried = true;
            int looked = waiting;
            for (int place = 0; place < looked; place++) {
                int well = requests[REQUEST_WELL][place];
                int buckets = requests[REQUEST_BUCKETS][place];
                if (isTried && shareOut(well, buckets) == buckets) {
                    pourShares(well);
                } else {
                    isTried = settings[PASSING] == 1;
                    moveRequest(place, kept);
                    kept++;
                }
            }
            waiting = kept;
            drawnBehindWaiting += looked - kept;
            return looked - kept;
        }
    }

    /** The states that undo restores, in a ring with one slot more for the state noted last. */
    private static final class History {
        private static final int SLOTS = MAX_HISTORY + 1;

        private final Field[] states = new Field[SLOTS];
        private int oldest;
        private int size;

        History() {
            for (int slot = 0; slot < SLOTS; slot++) {
                states[slot] = new Field();
            }
        }

        /** Notes a state, which is none of the history before it is kept. */
        void note(Field field) {
            states[(oldest + size) % SLOTS].copyFrom(field);
        }

        void keep() {
            if (size < MAX_HISTORY) {
                size++;
            } else {
                oldest = (oldest + 1) % SLOTS;
            }
        }

        void giveBack(Field field) {
            if (size > 0) {
                size--;
                field.copyFrom(states[(oldest + size) % SLOTS]);
            }
        }
    }

    /** The text, and what its last run found. */
    private static final class Script {
        private final char[] signs = new char[MAX_TEXT];
        private final int[] numbers = new int[MAX_NUMBERS];
        private int length;
        private int next;
        private int orders;
        private int faultAt;
        private int reason;

        boolean append(char sign) {
            if (length >= MAX_TEXT) {
                return false;
            }
            signs[length] = sign;
            length++;
            return true;
        }

        /** Does the orders on a field, up to one that is not possible. */
        void runOn(Field field) {
            orders = 0;
            faultAt = 0;
            reason = NO_FAULT;
            next = 0;
            for (int order = 0; order < MAX_TEXT && next < length; order++) {
                faultAt = next;
                char kind = signs[next];
                if (!readOrder(kind)) {
                    reason = BAD_FORM;
                    return;
                }
                int answer = doOrder(field, kind);
                if (answer < 0) {
                    reason = answer == INVALID_ARGUMENT ? BAD_ARGUMENT : BAD_OTHERWISE;
                    return;
                }
                orders++;
            }
        }

        /** How many numbers an order has, 0 if there is none of this kind. */
        private static int numbersOf(char kind) {
            switch (kind) {
                case 't': return 1;
                case 'd': return 2;
                case 'r': return 2;
                case 'n': return 3;
                default: return 0;
            }
        }

        /** Reads an order from its kind to the sign behind it and tells if it is of its form. */
        private boolean readOrder(char kind) {
            next++;
            int wanted = numbersOf(kind);
            for (int index = 0; index < wanted && index < MAX_NUMBERS; index++) {
                char end = index == wanted - 1 ? ';' : ',';
                if (!readNumber(index) || next >= length || signs[next] != end) {
                    return false;
                }
                next++;
            }
            return wanted > 0;
        }

        private boolean readNumber(int index) {
            int value = 0;
            int digits = 0;
            while (digits < MAX_DIGITS && next < length && isDigit(signs[next])) {
                value = value * 10 + (signs[next] - '0');
                digits++;
                next++;
            }
            numbers[index] = value;
            return digits > 0;
        }

        private static boolean isDigit(char sign) {
            return sign >= '0' && sign <= '9';
        }

        private int doOrder(Field field, char kind) {
            switch (kind) {
                case 'd': return field.takeDraw(numbers[0], numbers[1]);
                case 'r': return field.takeRequest(numbers[0], numbers[1]);
                case 't': return field.passTicks(numbers[0]);
                case 'n': return field.addDrought(numbers[0],
                        field.time + numbers[1], field.time + numbers[2]);
                default: return INVALID_ARGUMENT;
            }
        }
    }
}
