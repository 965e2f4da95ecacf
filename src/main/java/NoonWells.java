import java.util.Arrays;

/**
 * The calls answer as ../shared/DOC.md says, which is not told here again. All rows are made with
 * the object and used again, since all calls of a run share one room.
 */
public final class NoonWells {
    public static final int INVALID_ARGUMENT = -1;
    public static final int NOT_POSSIBLE = -2;
    public static final int LIMIT_REACHED = -3;
    public static final int NOT_FOUND = -4;

    private static final int MAX_WELLS = 12;
    private static final int MAX_CAPACITY = 1000;
    private static final int MAX_FLOW = 100;
    private static final int MAX_BURST = 1000;
    private static final int MAX_DROUGHTS = 20;
    private static final int MAX_DROUGHT_TIME = 60000;
    private static final int MAX_BUCKETS = 999;
    // All that a tree can hold: able asks for a draw that only its givers bound.
    private static final int ALL_BUCKETS = MAX_WELLS * MAX_CAPACITY;
    private static final int MAX_WAITING = 8;
    private static final int MAX_TICKS = 200;
    private static final int MAX_TIME = 50000;
    private static final int MAX_FORECAST = 300;
    private static final int MAX_HISTORY = 4;
    private static final int MAX_TEXT = 60;
    private static final int MAX_DIGITS = 3;
    private static final int MAX_NUMBERS = 3;
    private static final int FIRST_SIGN = 32;
    private static final int LAST_SIGN = 126;

    private static final int NO_WELL = -1;
    private static final int SPRING = 0;

    // The rows of the wells are numbered as wellOf numbers them.
    private static final int ABOVE = 0;
    private static final int CAPACITY = 1;
    private static final int FLOW = 2;
    private static final int BURST = 3;
    private static final int WATER = 4;
    private static final int CLAIM = 5;
    private static final int FLOWED_IN = 6;
    private static final int SPILLED = 7;
    private static final int GIVEN_TO_ITSELF = 8;
    private static final int GIVEN_TO_OTHERS = 9;
    private static final int GOT_AT_NOON = 10;
    private static final int GOT_BACK = 11;
    private static final int BELOW = 12;
    private static final int WELL_ROWS = 13;
    private static final int DRY_NEXT = 13;

    // The rows of the droughts are numbered as droughtOf numbers them.
    private static final int DROUGHT_WELL = 0;
    private static final int DROUGHT_FROM = 1;
    private static final int DROUGHT_TO = 2;
    private static final int DROUGHT_ROWS = 3;

    // The rows of the requests are numbered as requestAt numbers them.
    private static final int REQUEST_WELL = 0;
    private static final int REQUEST_BUCKETS = 1;
    private static final int REQUEST_TIME = 2;
    private static final int REQUEST_ROWS = 3;

    private static final int DAY = 0;
    private static final int PASSING = 1;
    private static final int SETTINGS = 2;
    private static final int MIN_DAY = 4;
    private static final int MAX_DAY = 100;
    private static final int FIRST_DAY = 24;

    private static final int NO_FAULT = 0;
    private static final int BAD_FORM = 1;
    private static final int BAD_ARGUMENT = 2;
    private static final int BAD_OTHERWISE = 3;

    private final Field now;
    // Forecasts and texts run on a copy, so that they change nothing and need no way back.
    private final Field trial;
    private final History history;
    private final Script script;

    public NoonWells() {
        now = new Field();
        trial = new Field();
        history = new History();
        script = new Script();
    }

    // ---- wells, droughts

    public int well(int above, int capacity, int flow, int burst) {
        history.note(now);
        return keepIfDone(now.addWell(above, capacity, flow, burst));
    }

    public int drought(int well, int from, int to) {
        history.note(now);
        return keepIfDone(now.addDrought(well, from, to));
    }

    public int droughtOf(int drought, int what) {
        if (drought < 0 || drought >= now.droughtCount || what < 0 || what >= DROUGHT_ROWS) {
            return INVALID_ARGUMENT;
        }
        return now.droughts[what][drought];
    }

    public int wellOf(int well, int what) {
        if (!now.isWell(well) || what < 0 || what > DRY_NEXT) {
            return INVALID_ARGUMENT;
        }
        if (what == DRY_NEXT) {
            return now.isDry(well, now.time + 1) ? 1 : 0;
        }
        if (what == ABOVE && well == SPRING) {
            return NOT_FOUND;
        }
        return now.wells[what][well];
    }

    public int aboveAt(int well, int index) {
        if (!now.isWell(well) || index < 0) {
            return INVALID_ARGUMENT;
        }
        int found = now.wellAbove(well, index);
        return found == NO_WELL ? NOT_FOUND : found;
    }

    // ---- draws, requests

    public int draw(int well, int buckets) {
        history.note(now);
        return keepIfDone(now.takeDraw(well, buckets));
    }

    public int request(int well, int buckets) {
        history.note(now);
        return keepIfDone(now.takeRequest(well, buckets));
    }

    public int cancel(int place) {
        history.note(now);
        return keepIfDone(now.dropRequest(place));
    }

    public int requestAt(int place, int what) {
        if (!now.isPlace(place) || what < 0 || what >= REQUEST_ROWS) {
            return INVALID_ARGUMENT;
        }
        return now.requests[what][place - 1];
    }

    public int tick(int ticks) {
        history.note(now);
        return keepIfDone(now.passTicks(ticks));
    }

    public int set(int what, int value) {
        history.note(now);
        return keepIfDone(now.changeSetting(what, value));
    }

    // ---- what would be, which changes nothing

    public int able(int well) {
        return now.isWell(well) ? now.shareOut(well, ALL_BUCKETS) : INVALID_ARGUMENT;
    }

    public int gives(int well, int buckets, int giver) {
        if (!now.isWell(well) || !areBuckets(buckets) || !now.isWell(giver)) {
            return INVALID_ARGUMENT;
        }
        return now.shareOut(well, buckets) == buckets ? now.shares[giver] : NOT_POSSIBLE;
    }

    public int possibleIn(int well, int buckets) {
        if (!now.isWell(well) || !areBuckets(buckets)) {
            return INVALID_ARGUMENT;
        }
        trial.copyFrom(now);
        for (int ticks = 0; ticks <= MAX_FORECAST; ticks++) {
            if (trial.shareOut(well, buckets) == buckets) {
                return ticks;
            }
            trial.passTick();
        }
        return NOT_FOUND;
    }

    public int waterIn(int well, int ticks) {
        if (!now.isWell(well) || ticks < 0 || ticks > MAX_FORECAST) {
            return INVALID_ARGUMENT;
        }
        trial.copyFrom(now);
        for (int passed = 0; passed < ticks; passed++) {
            trial.passTick();
        }
        return trial.wells[WATER][well];
    }

    public int lenders() {
        trial.copyFrom(now);
        return trial.lendAtNoon();
    }

    // ---- accounts

    public int count(int what) {
        switch (what) {
            case 0: return now.wellCount;
            case 1: return now.droughtCount;
            case 2: return now.time;
            case 3: return now.sumOf(WATER);
            case 4: return now.sumOf(FLOWED_IN);
            case 5: return now.sumOf(SPILLED);
            case 6: return now.sumOf(GIVEN_TO_ITSELF) + now.sumOf(GIVEN_TO_OTHERS);
            case 7: return now.sumOf(GOT_AT_NOON);
            case 8: return now.sumOf(GOT_BACK);
            case 9: return now.sumOf(CLAIM);
            case 10: return now.waiting;
            case 11: return now.drawnBehindWaiting;
            case 12: return now.settings[DAY] - now.timeOfDay();
            case 13: return history.size;
            case 14: return script.length;
            case 20: return now.settings[DAY];
            case 21: return now.settings[PASSING];
            default: return INVALID_ARGUMENT;
        }
    }

    public int undo() {
        if (history.size == 0) {
            return NOT_POSSIBLE;
        }
        history.giveBack(now);
        return history.size;
    }

    // ---- texts

    public int type(int character) {
        if (character < FIRST_SIGN || character > LAST_SIGN) {
            return INVALID_ARGUMENT;
        }
        return script.append((char) character) ? script.length : LIMIT_REACHED;
    }

    public int clearText() {
        int had = script.length;
        script.length = 0;
        return had;
    }

    public int fault(int what) {
        if (what != 0 && what != 1) {
            return INVALID_ARGUMENT;
        }
        trial.copyFrom(now);
        script.runOn(trial);
        if (script.reason == NO_FAULT) {
            return NOT_FOUND;
        }
        return what == 0 ? script.faultAt : script.reason;
    }

    public int play() {
        history.note(now);
        trial.copyFrom(now);
        script.runOn(trial);
        if (script.reason != NO_FAULT) {
            return NOT_POSSIBLE;
        }
        now.copyFrom(trial);
        return keepIfDone(script.orders);
    }

    // Only the answer tells if a call was a change, and by then the state ahead of it is gone: so
    // each change notes it first, and here it is kept or left to be noted over.
    private int keepIfDone(int answer) {
        if (answer >= 0) {
            history.keep();
        }
        return answer;
    }

    private static boolean areBuckets(int buckets) {
        return buckets >= 1 && buckets <= MAX_BUCKETS;
    }

    // All that undo restores is in one class, so that a state is one copy. Each change tests all
    // ahead of the first thing that it alters: an error leaves nothing to take back.
    private static final class Field {
        private final int[][] wells = new int[WELL_ROWS][MAX_WELLS];
        private final int[][] droughts = new int[DROUGHT_ROWS][MAX_DROUGHTS];
        private final int[][] requests = new int[REQUEST_ROWS][MAX_WAITING];
        private final int[] settings = new int[SETTINGS];
        private final int[] shares = new int[MAX_WELLS];
        private int wellCount;
        private int droughtCount;
        private int waiting;
        private int time;
        private int drawnBehindWaiting;

        Field() {
            settings[DAY] = FIRST_DAY;
        }

        void copyFrom(Field other) {
            copyRows(other.wells, wells);
            copyRows(other.droughts, droughts);
            copyRows(other.requests, requests);
            settings[DAY] = other.settings[DAY];
            settings[PASSING] = other.settings[PASSING];
            wellCount = other.wellCount;
            droughtCount = other.droughtCount;
            waiting = other.waiting;
            time = other.time;
            drawnBehindWaiting = other.drawnBehindWaiting;
        }

        private static void copyRows(int[][] from, int[][] to) {
            for (int row = 0; row < from.length && row < to.length; row++) {
                int elements = Math.min(from[row].length, to[row].length);
                System.arraycopy(from[row], 0, to[row], 0, elements);
            }
        }

        boolean isWell(int well) {
            return well >= 0 && well < wellCount;
        }

        boolean isPlace(int place) {
            return place >= 1 && place <= waiting;
        }

        int sumOf(int row) {
            int sum = 0;
            for (int well = 0; well < wellCount; well++) {
                sum += wells[row][well];
            }
            return sum;
        }

        int timeOfDay() {
            int day = settings[DAY];
            return day > 0 ? time % day : 0;
        }

        int addWell(int above, int capacity, int flow, int burst) {
            boolean fits = wellCount == 0 ? above == NO_WELL : isWell(above);
            if (!fits || capacity < 1 || capacity > MAX_CAPACITY
                    || flow < 0 || flow > MAX_FLOW || burst < 0 || burst > MAX_BURST) {
                return INVALID_ARGUMENT;
            }
            if (wellCount >= MAX_WELLS) {
                return LIMIT_REACHED;
            }
            wells[ABOVE][wellCount] = above;
            wells[CAPACITY][wellCount] = capacity;
            wells[FLOW][wellCount] = flow;
            wells[BURST][wellCount] = burst;
            if (isWell(above)) {
                wells[BELOW][above]++;
            }
            return wellCount++;
        }

        int wellAbove(int well, int index) {
            // No way up is longer than the wells are many, whatever index is asked for.
            int steps = Math.min(index, MAX_WELLS);
            int found = wells[ABOVE][well];
            for (int step = 0; step < steps && isWell(found); step++) {
                found = wells[ABOVE][found];
            }
            return found;
        }

        int addDrought(int well, int from, int to) {
            if (!isWell(well) || from <= time || from > MAX_DROUGHT_TIME
                    || to < from || to > MAX_DROUGHT_TIME) {
                return INVALID_ARGUMENT;
            }
            if (droughtCount >= MAX_DROUGHTS) {
                return LIMIT_REACHED;
            }
            droughts[DROUGHT_WELL][droughtCount] = well;
            droughts[DROUGHT_FROM][droughtCount] = from;
            droughts[DROUGHT_TO][droughtCount] = to;
            return droughtCount++;
        }

        boolean isDry(int well, int moment) {
            return (dryWells(moment) >> well & 1) == 1;
        }

        // A set, so that a tick goes through the droughts once and not once a well.
        private int dryWells(int moment) {
            int dry = 0;
            for (int drought = 0; drought < droughtCount; drought++) {
                if (droughts[DROUGHT_FROM][drought] <= moment
                        && moment <= droughts[DROUGHT_TO][drought]) {
                    dry |= 1 << droughts[DROUGHT_WELL][drought];
                }
            }
            return dry;
        }

        // Apart from the taking, since a draw that falls short, or is only asked about, must leave
        // all water where it is. A draw is possible if all of its buckets are answered here.
        int shareOut(int well, int buckets) {
            Arrays.fill(shares, 0);
            int left = buckets;
            int giver = well;
            for (int step = 0; step < MAX_WELLS && isWell(giver); step++) {
                int water = wells[WATER][giver];
                int most = giver == well ? water : Math.min(water, wells[BURST][giver]);
                shares[giver] = Math.min(left, most);
                left -= shares[giver];
                giver = wells[ABOVE][giver];
            }
            return buckets - left;
        }

        // Right for the draw that was shared out last, and for no other: it takes these shares.
        private int pourShares(int well) {
            int lent = 0;
            for (int giver = 0; giver < wellCount; giver++) {
                int share = shares[giver];
                wells[WATER][giver] -= share;
                if (giver == well) {
                    wells[GIVEN_TO_ITSELF][giver] += share;
                } else {
                    wells[GIVEN_TO_OTHERS][giver] += share;
                    lent += share;
                }
            }
            return lent;
        }

        int takeDraw(int well, int buckets) {
            if (!isWell(well) || !areBuckets(buckets)) {
                return INVALID_ARGUMENT;
            }
            return shareOut(well, buckets) == buckets ? pourShares(well) : NOT_POSSIBLE;
        }

        int takeRequest(int well, int buckets) {
            if (!isWell(well) || !areBuckets(buckets)) {
                return INVALID_ARGUMENT;
            }
            if (waiting == 0 && shareOut(well, buckets) == buckets) {
                pourShares(well);
                return 0;
            }
            if (waiting >= MAX_WAITING) {
                return LIMIT_REACHED;
            }
            requests[REQUEST_WELL][waiting] = well;
            requests[REQUEST_BUCKETS][waiting] = buckets;
            requests[REQUEST_TIME][waiting] = time;
            waiting++;
            return waiting;
        }

        int dropRequest(int place) {
            if (!isPlace(place)) {
                return INVALID_ARGUMENT;
            }
            int buckets = requests[REQUEST_BUCKETS][place - 1];
            for (int behind = place; behind < waiting; behind++) {
                moveRequest(behind, behind - 1);
            }
            waiting--;
            return buckets;
        }

        private void moveRequest(int from, int to) {
            for (int row = 0; row < REQUEST_ROWS; row++) {
                requests[row][to] = requests[row][from];
            }
        }

        int changeSetting(int what, int value) {
            boolean fits = what == DAY ? value >= MIN_DAY && value <= MAX_DAY
                    : what == PASSING && (value == 0 || value == 1);
            if (!fits) {
                return INVALID_ARGUMENT;
            }
            int was = settings[what];
            settings[what] = value;
            return was;
        }

        int passTicks(int ticks) {
            if (ticks < 1 || ticks > MAX_TICKS) {
                return INVALID_ARGUMENT;
            }
            if (time + ticks > MAX_TIME) {
                return LIMIT_REACHED;
            }
            int drawn = 0;
            for (int passed = 0; passed < ticks; passed++) {
                drawn += passTick();
            }
            return drawn;
        }

        // Has no limit of time, for that is one of the call tick: forecasts may look beyond it.
        int passTick() {
            time++;
            flowIn();
            if (timeOfDay() == 0) {
                lendAtNoon();
            } else if (timeOfDay() == settings[DAY] / 2) {
                payBackInEvening();
            }
            return serveWaiting();
        }

        private void flowIn() {
            int dry = dryWells(time);
            for (int well = 0; well < wellCount; well++) {
                if ((dry >> well & 1) == 0) {
                    int flow = wells[FLOW][well];
                    int taken = Math.min(flow, roomIn(well));
                    wells[WATER][well] += taken;
                    wells[FLOWED_IN][well] += taken;
                    wells[SPILLED][well] += flow - taken;
                }
            }
        }

        private int roomIn(int well) {
            return wells[CAPACITY][well] - wells[WATER][well];
        }

        // Answers the set of those that lent, since nothing else tells it afterwards.
        int lendAtNoon() {
            int lenders = 0;
            for (int well = wellCount - 1; well > SPRING; well--) {
                int above = wells[ABOVE][well];
                int more = wells[WATER][well] - wells[CAPACITY][well] / 2;
                int lent = isWell(above) ? Math.min(more, roomIn(above)) : 0;
                if (lent > 0) {
                    wells[WATER][well] -= lent;
                    wells[WATER][above] += lent;
                    wells[CLAIM][well] += lent;
                    wells[GOT_AT_NOON][above] += lent;
                    lenders |= 1 << well;
                }
            }
            return lenders;
        }

        private void payBackInEvening() {
            for (int payer = 0; payer < wellCount; payer++) {
                for (int well = payer + 1; well < wellCount; well++) {
                    if (wells[ABOVE][well] == payer) {
                        payBack(payer, well);
                    }
                }
            }
        }

        private void payBack(int payer, int well) {
            int paid = Math.min(wells[CLAIM][well], Math.min(wells[WATER][payer], roomIn(well)));
            wells[WATER][payer] -= paid;
            wells[WATER][well] += paid;
            wells[CLAIM][well] -= paid;
            wells[GOT_BACK][well] += paid;
        }

        private int serveWaiting() {
            int kept = 0;
            boolean isTried = true;
            int looked = waiting;
            for (int place = 0; place < looked; place++) {
                int well = requests[REQUEST_WELL][place];
                int buckets = requests[REQUEST_BUCKETS][place];
                if (isTried && shareOut(well, buckets) == buckets) {
                    pourShares(well);
                } else {
                    isTried = settings[PASSING] == 1;
                    moveRequest(place, kept);
                    kept++;
                }
            }
            waiting = kept;
            drawnBehindWaiting += looked - kept;
            return looked - kept;
        }
    }

    // A ring, so that the oldest state is dropped without moving the others, with one slot more
    // than states are kept, so that a noted state costs none of them if its call is refused.
    private static final class History {
        private static final int SLOTS = MAX_HISTORY + 1;

        private final Field[] states = new Field[SLOTS];
        private int oldest;
        private int size;

        History() {
            for (int slot = 0; slot < SLOTS; slot++) {
                states[slot] = new Field();
            }
        }

        void note(Field field) {
            states[(oldest + size) % SLOTS].copyFrom(field);
        }

        void keep() {
            if (size < MAX_HISTORY) {
                size++;
            } else {
                oldest = (oldest + 1) % SLOTS;
            }
        }

        void giveBack(Field field) {
            if (size > 0) {
                size--;
                field.copyFrom(states[(oldest + size) % SLOTS]);
            }
        }
    }

    // A run leaves what it found here, since it finds three things and can answer only one.
    private static final class Script {
        private final char[] signs = new char[MAX_TEXT];
        private final int[] numbers = new int[MAX_NUMBERS];
        private int length;
        private int next;
        private int orders;
        private int faultAt;
        private int reason;

        boolean append(char sign) {
            if (length >= MAX_TEXT) {
                return false;
            }
            signs[length] = sign;
            length++;
            return true;
        }

        // The field must be a copy: what the orders ahead of a fault did to it stays done.
        void runOn(Field field) {
            orders = 0;
            faultAt = 0;
            reason = NO_FAULT;
            next = 0;
            for (int order = 0; order < MAX_TEXT && next < length; order++) {
                faultAt = next;
                char kind = signs[next];
                if (!readOrder(kind)) {
                    reason = BAD_FORM;
                    return;
                }
                int answer = doOrder(field, kind);
                if (answer < 0) {
                    reason = answer == INVALID_ARGUMENT ? BAD_ARGUMENT : BAD_OTHERWISE;
                    return;
                }
                orders++;
            }
        }

        // Each order has a number, so 0 is free to say that there is no order of this kind.
        private static int numbersOf(char kind) {
            switch (kind) {
                case 't': return 1;
                case 'd': return 2;
                case 'r': return 2;
                case 'n': return 3;
                default: return 0;
            }
        }

        private boolean readOrder(char kind) {
            next++;
            int wanted = numbersOf(kind);
            for (int index = 0; index < wanted && index < MAX_NUMBERS; index++) {
                char end = index == wanted - 1 ? ';' : ',';
                if (!readNumber(index) || next >= length || signs[next] != end) {
                    return false;
                }
                next++;
            }
            return wanted > 0;
        }

        private boolean readNumber(int index) {
            int value = 0;
            int digits = 0;
            while (digits < MAX_DIGITS && next < length && isDigit(signs[next])) {
                value = value * 10 + (signs[next] - '0');
                digits++;
                next++;
            }
            numbers[index] = value;
            return digits > 0;
        }

        private static boolean isDigit(char sign) {
            return sign >= '0' && sign <= '9';
        }

        private int doOrder(Field field, char kind) {
            switch (kind) {
                case 'd': return field.takeDraw(numbers[0], numbers[1]);
                case 'r': return field.takeRequest(numbers[0], numbers[1]);
                case 't': return field.passTicks(numbers[0]);
                case 'n': return field.addDrought(numbers[0],
                        field.time + numbers[1], field.time + numbers[2]);
                default: return INVALID_ARGUMENT;
            }
        }
    }
}
