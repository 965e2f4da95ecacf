import java.util.ArrayList;
import java.util.List;
import java.util.regex.Matcher;
import java.util.regex.Pattern;

/** The document told a second time, in objects, lists and recursions, to compare answers with. */
final class PlainWells {
    private static final int BAD = -1;
    private static final int NOT = -2;
    private static final int LIMIT = -3;
    private static final int NONE = -4;
    private static final Pattern ORDER = Pattern.compile(
            "([dr])(\\d{1,3}),(\\d{1,3});|(t)(\\d{1,3});|(n)(\\d{1,3}),(\\d{1,3}),(\\d{1,3});");

    private static final class Well {
        int number;
        Well above;
        int capacity;
        int flow;
        int burst;
        int water;
        int claim;
        int flowed;
        int spilled;
        int gaveItself;
        int gaveOthers;
        int noon;
        int back;

        /** Draws up to n buckets for one well and returns what it could not get. */
        int drawUpward(int n, Well drawer) {
            int share = this == drawer ? Math.min(n, water) : Math.min(n, Math.min(water, burst));
            water -= share;
            if (this == drawer) {
                gaveItself += share;
            } else {
                gaveOthers += share;
            }
            return above == null ? n - share : above.drawUpward(n - share, drawer);
        }
    }

    private record Drought(int well, int from, int to) {
    }

    private record Request(int well, int buckets, int time) {
    }

    private static final class State {
        final List<Well> wells = new ArrayList<>();
        final List<Drought> droughts = new ArrayList<>();
        final List<Request> row = new ArrayList<>();
        int time;
        int late;
        int day = 24;
        int passing;

        State copy() {
            State other = new State();
            for (Well w : wells) {
                Well v = new Well();
                v.number = w.number;
                v.above = w.above == null ? null : other.wells.get(w.above.number);
                v.capacity = w.capacity;
                v.flow = w.flow;
                v.burst = w.burst;
                v.water = w.water;
                v.claim = w.claim;
                v.flowed = w.flowed;
                v.spilled = w.spilled;
                v.gaveItself = w.gaveItself;
                v.gaveOthers = w.gaveOthers;
                v.noon = w.noon;
                v.back = w.back;
                other.wells.add(v);
            }
            other.droughts.addAll(droughts);
            other.row.addAll(row);
            other.time = time;
            other.late = late;
            other.day = day;
            other.passing = passing;
            return other;
        }

        boolean isWell(int well) {
            return 0 <= well && well < wells.size();
        }

        boolean dry(int well, int at) {
            return droughts.stream().anyMatch(d -> d.well == well && d.from <= at && at <= d.to);
        }

        /** What would be left to get of a draw: nothing if it is possible. */
        int missing(int well, int buckets) {
            int left = buckets - wells.get(well).water;
            for (Well w = wells.get(well).above; w != null; w = w.above) {
                left -= Math.min(w.water, w.burst);
            }
            return Math.max(left, 0);
        }

        private int drawOf(int well, int buckets) {
            Well w = wells.get(well);
            return w.drawUpward(buckets, w);
        }

        int tickOnce() {
            time++;
            for (Well w : wells) {
                if (!dry(w.number, time)) {
                    w.water += w.flow;
                    w.flowed += w.flow;
                    if (w.water > w.capacity) {
                        int above = w.water - w.capacity;
                        w.water -= above;
                        w.flowed -= above;
                        w.spilled += above;
                    }
                }
            }
            if (time % day == 0) {
                noon();
            } else if (time % day == day / 2) {
                evening();
            }
            return look();
        }

        int noon() {
            int set = 0;
            for (int i = wells.size() - 1; i > 0; i--) {
                Well w = wells.get(i);
                while (w.water > w.capacity / 2 && w.above.water < w.above.capacity) {
                    set |= 1 << i;
                    w.water--;
                    w.claim++;
                    w.above.water++;
                    w.above.noon++;
                }
            }
            return set;
        }

        private void evening() {
            for (Well payer : wells) {
                for (Well w : wells) {
                    boolean isBelow = w.above == payer;
                    while (isBelow && w.claim > 0 && payer.water > 0 && w.water < w.capacity) {
                        payer.water--;
                        w.water++;
                        w.claim--;
                        w.back++;
                    }
                }
            }
        }

        private int look() {
            int drawn = 0;
            int place = 0;
            while (place < row.size()) {
                Request r = row.get(place);
                if (missing(r.well, r.buckets) == 0) {
                    drawOf(r.well, r.buckets);
                    row.remove(place);
                    drawn++;
                } else if (passing == 1) {
                    place++;
                } else {
                    break;
                }
            }
            late += drawn;
            return drawn;
        }

        int draw(int well, int buckets) {
            if (!isWell(well) || buckets < 1 || buckets > 999) {
                return BAD;
            }
            if (missing(well, buckets) > 0) {
                return NOT;
            }
            int fromItself = Math.min(buckets, wells.get(well).water);
            drawOf(well, buckets);
            return buckets - fromItself;
        }

        int request(int well, int buckets) {
            if (!isWell(well) || buckets < 1 || buckets > 999) {
                return BAD;
            }
            if (row.isEmpty() && missing(well, buckets) == 0) {
                drawOf(well, buckets);
                return 0;
            }
            if (row.size() == 8) {
                return LIMIT;
            }
            row.add(new Request(well, buckets, time));
            return row.size();
        }

        int drought(int well, int from, int to) {
            if (!isWell(well) || from < time + 1 || from > 60000 || to < from || to > 60000) {
                return BAD;
            }
            if (droughts.size() == 20) {
                return LIMIT;
            }
            droughts.add(new Drought(well, from, to));
            return droughts.size() - 1;
        }

        int tick(int ticks) {
            if (ticks < 1 || ticks > 200) {
                return BAD;
            }
            if (time + ticks > 50000) {
                return LIMIT;
            }
            int drawn = 0;
            for (int i = 0; i < ticks; i++) {
                drawn += tickOnce();
            }
            return drawn;
        }
    }

    private State now = new State();
    private final List<State> history = new ArrayList<>();
    private String text = "";
    private int faultAt;
    private int faultReason;
    private int orders;

    private int change(State before, int answer) {
        if (answer >= 0) {
            history.add(before);
            if (history.size() == 5) {
                history.remove(0);
            }
        } else {
            now = before;
        }
        return answer;
    }

    int well(int above, int capacity, int flow, int burst) {
        boolean right = now.wells.isEmpty() ? above == -1 : now.isWell(above);
        if (!right || capacity < 1 || capacity > 1000 || flow < 0 || flow > 100
                || burst < 0 || burst > 1000) {
            return BAD;
        }
        if (now.wells.size() == 12) {
            return LIMIT;
        }
        State before = now.copy();
        Well w = new Well();
        w.number = now.wells.size();
        w.above = above < 0 ? null : now.wells.get(above);
        w.capacity = capacity;
        w.flow = flow;
        w.burst = burst;
        now.wells.add(w);
        return change(before, w.number);
    }

    int drought(int well, int from, int to) {
        return change(now.copy(), now.drought(well, from, to));
    }

    int droughtOf(int drought, int what) {
        if (drought < 0 || drought >= now.droughts.size() || what < 0 || what > 2) {
            return BAD;
        }
        Drought d = now.droughts.get(drought);
        return List.of(d.well, d.from, d.to).get(what);
    }

    int wellOf(int well, int what) {
        if (!now.isWell(well) || what < 0 || what > 13) {
            return BAD;
        }
        Well w = now.wells.get(well);
        int below = (int) now.wells.stream().filter(v -> v.above == w).count();
        int[] all = {w.above == null ? NONE : w.above.number, w.capacity, w.flow, w.burst, w.water,
            w.claim, w.flowed, w.spilled, w.gaveItself, w.gaveOthers, w.noon, w.back, below,
            now.dry(well, now.time + 1) ? 1 : 0};
        return all[what];
    }

    int aboveAt(int well, int index) {
        if (!now.isWell(well) || index < 0) {
            return BAD;
        }
        List<Integer> above = new ArrayList<>();
        for (Well w = now.wells.get(well).above; w != null; w = w.above) {
            above.add(w.number);
        }
        return index < above.size() ? above.get(index) : NONE;
    }

    int draw(int well, int buckets) {
        return change(now.copy(), now.draw(well, buckets));
    }

    int request(int well, int buckets) {
        return change(now.copy(), now.request(well, buckets));
    }

    int cancel(int place) {
        if (place < 1 || place > now.row.size()) {
            return BAD;
        }
        State before = now.copy();
        return change(before, now.row.remove(place - 1).buckets);
    }

    int requestAt(int place, int what) {
        if (place < 1 || place > now.row.size() || what < 0 || what > 2) {
            return BAD;
        }
        Request r = now.row.get(place - 1);
        return List.of(r.well, r.buckets, r.time).get(what);
    }

    int tick(int ticks) {
        return change(now.copy(), now.tick(ticks));
    }

    int set(int what, int value) {
        State before = now.copy();
        if (what == 0 && value >= 4 && value <= 100) {
            now.day = value;
            return change(before, before.day);
        }
        if (what == 1 && (value == 0 || value == 1)) {
            now.passing = value;
            return change(before, before.passing);
        }
        return BAD;
    }

    int able(int well) {
        if (!now.isWell(well)) {
            return BAD;
        }
        int most = now.wells.get(well).water;
        for (Well w = now.wells.get(well).above; w != null; w = w.above) {
            most += Math.min(w.water, w.burst);
        }
        return most;
    }

    int gives(int well, int buckets, int giver) {
        if (!now.isWell(well) || buckets < 1 || buckets > 999 || !now.isWell(giver)) {
            return BAD;
        }
        State trial = now.copy();
        if (trial.draw(well, buckets) < 0) {
            return NOT;
        }
        return now.wells.get(giver).water - trial.wells.get(giver).water;
    }

    int possibleIn(int well, int buckets) {
        if (!now.isWell(well) || buckets < 1 || buckets > 999) {
            return BAD;
        }
        State trial = now.copy();
        int ticks = 0;
        while (ticks <= 300 && trial.missing(well, buckets) > 0) {
            trial.tickOnce();
            ticks++;
        }
        return ticks > 300 ? NONE : ticks;
    }

    int waterIn(int well, int ticks) {
        if (!now.isWell(well) || ticks < 0 || ticks > 300) {
            return BAD;
        }
        State trial = now.copy();
        for (int i = 0; i < ticks; i++) {
            trial.tickOnce();
        }
        return trial.wells.get(well).water;
    }

    int lenders() {
        return now.copy().noon();
    }

    private int sum(int what) {
        int sum = 0;
        for (Well w : now.wells) {
            sum += wellOf(w.number, what);
        }
        return sum;
    }

    int count(int what) {
        int nextNoon = 1;
        while ((now.time + nextNoon) % now.day != 0) {
            nextNoon++;
        }
        int[] first = {now.wells.size(), now.droughts.size(), now.time, sum(4), sum(6), sum(7),
            sum(8) + sum(9), sum(10), sum(11), sum(5), now.row.size(), now.late, nextNoon,
            history.size(), text.length()};
        if (what >= 0 && what < first.length) {
            return first[what];
        }
        return what == 20 ? now.day : what == 21 ? now.passing : BAD;
    }

    int undo() {
        if (history.isEmpty()) {
            return NOT;
        }
        now = history.remove(history.size() - 1);
        return history.size();
    }

    int type(int character) {
        if (character < 32 || character > 126) {
            return BAD;
        }
        if (text.length() == 60) {
            return LIMIT;
        }
        text += (char) character;
        return text.length();
    }

    int clearText() {
        int had = text.length();
        text = "";
        return had;
    }

    private State run() {
        State trial = now.copy();
        Matcher m = ORDER.matcher(text);
        faultAt = 0;
        faultReason = 0;
        orders = 0;
        while (faultAt < text.length()) {
            m.region(faultAt, text.length());
            if (!m.lookingAt()) {
                faultReason = 1;
                return trial;
            }
            int answer;
            if (m.group(4) != null) {
                answer = trial.tick(Integer.parseInt(m.group(5)));
            } else if (m.group(6) != null) {
                answer = trial.drought(Integer.parseInt(m.group(7)),
                        trial.time + Integer.parseInt(m.group(8)),
                        trial.time + Integer.parseInt(m.group(9)));
            } else {
                int well = Integer.parseInt(m.group(2));
                int buckets = Integer.parseInt(m.group(3));
                answer = m.group(1).equals("d") ? trial.draw(well, buckets)
                        : trial.request(well, buckets);
            }
            if (answer < 0) {
                faultReason = answer == BAD ? 2 : 3;
                return trial;
            }
            faultAt = m.end();
            orders++;
        }
        return trial;
    }

    int fault(int what) {
        if (what < 0 || what > 1) {
            return BAD;
        }
        run();
        return faultReason == 0 ? NONE : what == 0 ? faultAt : faultReason;
    }

    int play() {
        State after = run();
        if (faultReason != 0) {
            return NOT;
        }
        State before = now;
        now = after;
        return change(before, orders);
    }
}
