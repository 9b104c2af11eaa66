import java.util.ArrayList;
import java.util.Arrays;
import java.util.Comparator;
import java.util.List;
import java.util.regex.Matcher;
import java.util.regex.Pattern;

/**
 * The document read as slowly as can be: every minute of every carrying is lived through, every
 * round is written down and sorted. It shares no idea with the program but the document.
 */
final class NaiveSaint {

    static final class Finding extends RuntimeException {
        private static final long serialVersionUID = 1L;
        final int which;

        Finding(int which) {
            super(null, null, false, false);
            this.which = which;
        }
    }

    private interface Act {
        int run();
    }

    // the kinds as a tree, each saying only what the document says of it

    static class Plain {
        int takes(int length) {
            return length;
        }

        int melts(int sun) {
            return 2 * sun;
        }

        int wets(int rain) {
            return 5 * rain;
        }

        int licks() {
            return 0;
        }
    }

    static class Shaded extends Plain {
        @Override
        int melts(int sun) {
            return super.melts(sun) / 2;
        }
    }

    static class Windy extends Plain {
        @Override
        int melts(int sun) {
            int less = super.melts(sun) - 3;
            return less < 0 ? 0 : less;
        }

        @Override
        int wets(int rain) {
            return super.wets(rain) + rain;
        }
    }

    static class Chapel extends Shaded {
        @Override
        int melts(int sun) {
            return 0;
        }

        @Override
        int wets(int rain) {
            return 0;
        }
    }

    static class Steep extends Windy {
        @Override
        int takes(int length) {
            int flat = super.takes(length);
            return flat + flat / 2;
        }
    }

    static class Crowded extends Plain {
        @Override
        int takes(int length) {
            return super.takes(length) + 2;
        }

        @Override
        int licks() {
            return 2;
        }
    }

    static class Ants extends Crowded {
        @Override
        int licks() {
            return super.licks() + 3;
        }
    }

    private static final Plain[] KINDS = {new Plain(), new Shaded(), new Windy(), new Chapel(), new Steep(),
        new Crowded(), new Ants()};
    private static final List<String> WORDS =
            List.of("street", "shaded", "windy", "chapel", "steep", "crowded", "ants");

    static final class Lane {
        int kind;
        int one;
        int other;
        int length;
        int umbrella;

        Lane(int kind, int one, int other, int length, int umbrella) {
            this.kind = kind;
            this.one = one;
            this.other = other;
            this.length = length;
            this.umbrella = umbrella;
        }

        boolean joins(int a, int b) {
            return one == a && other == b || one == b && other == a;
        }

        int takes() {
            return KINDS[kind].takes(length);
        }
    }

    /** All that an image keeps; copied whole for every trial. */
    static final class World {
        List<Lane> lanes = new ArrayList<>();
        int[] quarters = {0, 1, 2, 3, 0, 1, 2, 3};
        int[] sun = new int[12];
        int[] rain = new int[12];
        int[] grains = {100, 200, 200, 500};
        int salt;
        int corner;
        int minute;
        int seen;
        int molten;
        int z = 1;
        int[] spots = new int[10];

        World() {
            Arrays.fill(sun, 3);
            Arrays.fill(spots, -1);
        }

        World twin() {
            World w = new World();
            for (Lane l : lanes) {
                w.lanes.add(new Lane(l.kind, l.one, l.other, l.length, l.umbrella));
            }
            w.quarters = quarters.clone();
            w.sun = sun.clone();
            w.rain = rain.clone();
            w.grains = grains.clone();
            w.salt = salt;
            w.corner = corner;
            w.minute = minute;
            w.seen = seen;
            w.molten = molten;
            w.z = z;
            w.spots = spots.clone();
            return w;
        }

        int all() {
            return Arrays.stream(grains).sum();
        }

        int loss(Lane lane, int spell) {
            Plain kind = KINDS[lane.kind];
            int melts = kind.melts(sun[spell]);
            int wets = lane.umbrella == 1 ? 0 : kind.wets(rain[spell]);
            int licks = kind.licks();
            if (salt == 1) {
                melts /= 2;
                wets *= 2;
                licks = 0;
            }
            return melts + wets + licks;
        }

        void liveMinute(Lane lane) {
            int open = loss(lane, minute >= 220 ? 11 : minute / 20);
            for (int grain = 0; grain < open; grain++) {
                for (int part = 0; part < 4; part++) {
                    if (grains[part] > 0) {
                        grains[part]--;
                        molten++;
                        break;
                    }
                }
            }
            minute++;
        }

        void along(Lane lane, int to) {
            int takes = lane.takes();
            for (int i = 0; i < takes; i++) {
                liveMinute(lane);
            }
            corner = to;
            if (grains[2] > 0) {
                seen |= 1 << quarters[to];
            }
        }

        Lane lane(int from, int to) {
            int i = laneNumber(from, to);
            return i < 0 ? null : lanes.get(i);
        }

        int laneNumber(int from, int to) {
            for (int i = 0; i < lanes.size(); i++) {
                if (lanes.get(i).joins(from, to)) {
                    return i;
                }
            }
            return -1;
        }

        int draw() {
            z = z * 1103515245 + 12345;
            return z >>> 8;
        }
    }

    /** A row of corners behind hers, and the world behind it. */
    private static final class Trip {
        final List<Integer> corners;
        final World end;

        Trip(List<Integer> corners, World end) {
            this.corners = corners;
            this.end = end;
        }
    }

    private static final class Paper {
        int bits;
        int[] numbers;
    }

    private World world = new World();
    private World kept;
    private final List<Integer> tape = new ArrayList<>();
    private final Paper[] papers = new Paper[4];
    private final int[] told = new int[7];

    private int act(Act act) {
        try {
            return act.run();
        } catch (Finding f) {
            told[-1000001 - f.which]++;
            return f.which;
        }
    }

    private static void want(boolean holds, int finding) {
        if (!holds) {
            throw new Finding(finding);
        }
    }

    private static void in(int v, int least, int most) {
        want(v >= least && v <= most, Check.BEYOND);
    }

    private Lane laneAt(int street) {
        in(street, 0, world.lanes.size() - 1);
        return world.lanes.get(street);
    }

    // ---- trips

    private static List<List<Integer>> rows(World w) {
        List<List<Integer>> rows = new ArrayList<>();
        grow(w, w.corner, new ArrayList<>(), rows);
        rows.sort(ORDER);
        return rows;
    }

    private static final Comparator<List<Integer>> ORDER = (a, b) -> {
        for (int i = 0; i < Math.min(a.size(), b.size()); i++) {
            if (!a.get(i).equals(b.get(i))) {
                return a.get(i) - b.get(i);
            }
        }
        return a.size() - b.size();
    };

    private static void grow(World w, int at, List<Integer> row, List<List<Integer>> rows) {
        rows.add(new ArrayList<>(row));
        for (int to = 7; to >= 0; to--) {
            if (to != w.corner && !row.contains(to) && w.lane(at, to) != null) {
                row.add(to);
                grow(w, to, row, rows);
                row.remove(row.size() - 1);
            }
        }
    }

    private static World walked(World w, List<Integer> row) {
        World end = w.twin();
        for (int to : row) {
            end.along(end.lane(end.corner, to), to);
        }
        return end;
    }

    private static List<Trip> waysTo(World w, int corner) {
        List<Trip> trips = new ArrayList<>();
        for (List<Integer> row : rows(w)) {
            int last = row.isEmpty() ? w.corner : row.get(row.size() - 1);
            if (last == corner) {
                trips.add(new Trip(row, walked(w, row)));
            }
        }
        return trips;
    }

    private static int quartersToShow(World w) {
        int set = 0;
        for (Lane l : w.lanes) {
            set |= 1 << w.quarters[l.one];
            set |= 1 << w.quarters[l.other];
        }
        return set;
    }

    private static List<Trip> roundsIn(World w, int toShow) {
        List<Trip> trips = new ArrayList<>();
        for (List<Integer> row : rows(w)) {
            if (!row.isEmpty() && w.lane(row.get(row.size() - 1), w.corner) != null) {
                List<Integer> whole = new ArrayList<>(row);
                whole.add(w.corner);
                World end = walked(w, whole);
                if ((end.seen & toShow) == toShow) {
                    trips.add(new Trip(row, end));
                }
            }
        }
        return trips;
    }

    private static List<Trip> roundsIn(World w) {
        return roundsIn(w, quartersToShow(w));
    }

    private static Trip best(List<Trip> trips) {
        Trip best = null;
        for (Trip t : trips) {
            if (best == null || t.end.all() > best.end.all()) {
                best = t;
            }
        }
        return best;
    }

    private static int bestLeft(World w) {
        Trip best = best(roundsIn(w));
        return best == null ? -1 : best.end.all();
    }

    private void planning() {
        want(world.minute <= 700, Check.STATE);
    }

    private List<Trip> plannedWays(int corner) {
        in(corner, 0, 7);
        planning();
        List<Trip> trips = waysTo(world, corner);
        want(!trips.isEmpty(), Check.NONE);
        return trips;
    }

    // ---- the face

    public int street(int kind, int one, int other, int length) {
        return act(() -> {
            in(kind, 0, 6);
            in(one, 0, 7);
            in(other, 0, 7);
            in(length, 1, 20);
            want(one != other, Check.BEYOND);
            want(world.lanes.size() < 14, Check.FULL);
            world.lanes.add(new Lane(kind, one, other, length, 0));
            return world.lanes.size() - 1;
        });
    }

    public int of(int street, int what) {
        return act(() -> {
            Lane l = laneAt(street);
            in(what, 0, 6);
            return new int[] {l.kind, Math.min(l.one, l.other), Math.max(l.one, l.other), l.length, l.umbrella,
                l.takes(), KINDS[l.kind].licks()}[what];
        });
    }

    public int change(int street, int what, int v) {
        return act(() -> {
            Lane l = laneAt(street);
            want(what == 0 || what == 3 || what == 4, Check.BEYOND);
            int was;
            if (what == 0) {
                in(v, 0, 6);
                was = l.kind;
                l.kind = v;
            } else if (what == 3) {
                in(v, 1, 20);
                was = l.length;
                l.length = v;
            } else {
                in(v, 0, 1);
                was = l.umbrella;
                l.umbrella = v;
            }
            return was;
        });
    }

    public int quarter(int corner, int v) {
        return act(() -> {
            in(corner, 0, 7);
            in(v, 0, 3);
            int was = world.quarters[corner];
            world.quarters[corner] = v;
            return was;
        });
    }

    public int spell(int i, int what, int v) {
        return act(() -> {
            in(i, 0, 11);
            in(what, 0, 1);
            in(v, 0, 9);
            int[] row = what == 0 ? world.sun : world.rain;
            int was = row[i];
            row[i] = v;
            return was;
        });
    }

    public int loss(int street, int i) {
        return act(() -> {
            in(i, 0, 11);
            return world.loss(laneAt(street), i);
        });
    }

    public int next(int corner) {
        return act(() -> {
            in(corner, 0, 7);
            int set = 0;
            for (int to = 0; to < 8; to++) {
                if (world.lane(corner, to) != null) {
                    set += 1 << to;
                }
            }
            return set;
        });
    }

    public int by(int one, int other) {
        return act(() -> {
            in(one, 0, 7);
            in(other, 0, 7);
            want(one != other, Check.BEYOND);
            int i = world.laneNumber(one, other);
            want(i >= 0, Check.NONE);
            return i;
        });
    }

    public int grains(int part, int v) {
        return act(() -> {
            in(part, 0, 3);
            in(v, 0, 9999);
            int was = world.grains[part];
            world.grains[part] = v;
            return was;
        });
    }

    public int now(int what) {
        return act(() -> {
            in(what, 0, 9);
            World w = world;
            return new int[] {w.grains[0], w.grains[1], w.grains[2], w.grains[3], w.all(), w.salt, w.corner,
                w.minute, w.seen, w.molten}[what];
        });
    }

    public int made(int v) {
        return act(() -> {
            in(v, 0, 1);
            int was = world.salt;
            world.salt = v;
            return was;
        });
    }

    public int carry(int corner) {
        return act(() -> {
            in(corner, 0, 7);
            Lane l = world.lane(world.corner, corner);
            want(l != null, Check.NONE);
            want(world.minute + l.takes() <= 999, Check.STATE);
            int was = world.all();
            world.along(l, corner);
            return was - world.all();
        });
    }

    public int wait(int n) {
        return act(() -> {
            in(n, 1, 60);
            want(world.minute + n <= 999, Check.STATE);
            world.minute += n;
            return world.minute;
        });
    }

    public int day() {
        int saw = 0;
        for (int q = 0; q < 4; q++) {
            saw += world.seen >> q & 1;
        }
        world.minute = 0;
        world.seen = 0;
        world.corner = 0;
        return saw;
    }

    private int costsOf(World w, int street, int m) {
        World trial = w.twin();
        trial.minute = m;
        trial.along(trial.lanes.get(street), 0);
        return w.all() - trial.all();
    }

    public int costs(int street, int m) {
        return act(() -> {
            laneAt(street);
            in(m, 0, 999);
            return costsOf(world, street, m);
        });
    }

    public int most(int corner) {
        return act(() -> best(plannedWays(corner)).end.all());
    }

    public int way(int corner, int i) {
        return act(() -> {
            in(i, 0, 6);
            Trip best = best(plannedWays(corner));
            want(i < best.corners.size(), Check.NONE);
            return best.corners.get(i);
        });
    }

    public int soonest(int corner) {
        return act(() -> {
            int fewest = 100000;
            for (Trip t : plannedWays(corner)) {
                fewest = Math.min(fewest, t.end.minute - world.minute);
            }
            return fewest;
        });
    }

    public int ways(int corner) {
        return act(() -> {
            in(corner, 0, 7);
            return waysTo(world, corner).size();
        });
    }

    public int round() {
        return act(() -> {
            planning();
            Trip best = best(roundsIn(world));
            want(best != null, Check.NONE);
            return best.end.all();
        });
    }

    public int ith(int i) {
        return act(() -> {
            in(i, 0, 6);
            planning();
            Trip best = best(roundsIn(world));
            want(best != null && i < best.corners.size(), Check.NONE);
            return best.corners.get(i);
        });
    }

    public int rounds() {
        return act(() -> {
            planning();
            return roundsIn(world).size();
        });
    }

    /** The least place of the greatest number, if that is not below 0. */
    private static int leastOfMost(int[] lefts) {
        int most = -1;
        for (int left : lefts) {
            most = Math.max(most, left);
        }
        want(most >= 0, Check.NONE);
        for (int i = 0; i < lefts.length; i++) {
            if (lefts[i] == most) {
                return i;
            }
        }
        throw new IllegalStateException();
    }

    public int start() {
        return act(() -> {
            planning();
            int[] lefts = new int[61];
            for (int w = 0; w <= 60; w++) {
                World trial = world.twin();
                trial.minute += w;
                lefts[w] = bestLeft(trial);
            }
            return leastOfMost(lefts);
        });
    }

    public int better() {
        return act(() -> {
            planning();
            int[] lefts = new int[2];
            for (int salt = 0; salt < 2; salt++) {
                World trial = world.twin();
                trial.salt = salt;
                lefts[salt] = bestLeft(trial);
            }
            return leastOfMost(lefts);
        });
    }

    public int umbrella() {
        return act(() -> {
            planning();
            int[] lefts = new int[world.lanes.size()];
            for (int i = 0; i < lefts.length; i++) {
                World trial = world.twin();
                trial.lanes.get(i).umbrella = 1;
                lefts[i] = world.lanes.get(i).umbrella == 1 ? -1 : bestLeft(trial);
            }
            return leastOfMost(lefts);
        });
    }

    public int shade() {
        return act(() -> {
            planning();
            int[] lefts = new int[world.lanes.size()];
            for (int i = 0; i < lefts.length; i++) {
                World trial = world.twin();
                trial.lanes.get(i).kind = 1;
                lefts[i] = bestLeft(trial);
            }
            return leastOfMost(lefts);
        });
    }

    public int needed() {
        return act(() -> {
            planning();
            int toShow = quartersToShow(world);
            want(!roundsIn(world).isEmpty(), Check.NONE);
            int set = 0;
            for (int i = 0; i < world.lanes.size(); i++) {
                World trial = world.twin();
                trial.lanes.remove(i);
                if (roundsIn(trial, toShow).isEmpty()) {
                    set += 1 << i;
                }
            }
            return set;
        });
    }

    public int kindFor(int street) {
        return act(() -> {
            laneAt(street);
            int[] kept = new int[7];
            for (int kind = 0; kind < 7; kind++) {
                World trial = world.twin();
                trial.lanes.get(street).kind = kind;
                kept[kind] = 100000 - costsOf(trial, street, world.minute);
            }
            return leastOfMost(kept);
        });
    }

    public int reach() {
        int set = 0;
        for (List<Integer> row : rows(world)) {
            set |= 1 << (row.isEmpty() ? world.corner : row.get(row.size() - 1));
        }
        return set;
    }

    public int sky(int n) {
        return act(() -> {
            in(n, 1, 12);
            for (int i = 0; i < n; i++) {
                int spell = world.draw() % 12;
                world.sun[spell] = world.draw() % 10;
                int rain = world.draw() % 10 - 5;
                world.rain[spell] = rain < 0 ? 0 : rain;
            }
            return Arrays.stream(world.rain).sum();
        });
    }

    public int stray(int n) {
        return act(() -> {
            in(n, 1, 12);
            for (int i = 0; i < n; i++) {
                List<Integer> near = new ArrayList<>();
                for (int to = 0; to < 8; to++) {
                    if (world.lane(world.corner, to) != null) {
                        near.add(to);
                    }
                }
                if (near.isEmpty()) {
                    break;
                }
                int to = near.get(world.draw() % near.size());
                Lane l = world.lane(world.corner, to);
                if (world.minute + l.takes() > 999) {
                    break;
                }
                world.along(l, to);
            }
            return world.all();
        });
    }

    public int year() {
        int all = world.all();
        int tenth = all / 10;
        int fifth = 2 * all / 10;
        world.grains = new int[] {tenth, fifth, fifth, all - tenth - fifth - fifth};
        day();
        return world.all();
    }

    public int seed(int v) {
        int was = world.z;
        world.z = v;
        return was;
    }

    public int feed(int bytes, int n) {
        return act(() -> {
            in(n, 1, 4);
            want(tape.size() + n <= 120, Check.FULL);
            String bits = String.format("%08x", bytes);
            for (int i = 4 - n; i < 4; i++) {
                tape.add(Integer.parseInt(bits.substring(2 * i, 2 * i + 2), 16));
            }
            return tape.size();
        });
    }

    public int wipe() {
        int had = tape.size();
        tape.clear();
        return had;
    }

    // ---- texts: tokens by a pattern, then items from the list of tokens

    private static final Pattern TOKEN = Pattern.compile("[a-z]+|[0-9]+|[^ ]", Pattern.DOTALL);

    private static final class Fault extends RuntimeException {
        private static final long serialVersionUID = 1L;

        Fault() {
            super(null, null, false, false);
        }
    }

    private static final class Tokens {
        final List<String> texts = new ArrayList<>();
        final List<Integer> places = new ArrayList<>();
        int at = 0;

        Tokens(String text) {
            Matcher m = TOKEN.matcher(text);
            while (m.find()) {
                texts.add(m.group());
                places.add(m.start());
            }
            texts.add("");
            places.add(text.length());
        }

        boolean perhaps(String word) {
            boolean is = texts.get(at).equals(word);
            at += is ? 1 : 0;
            return is;
        }

        int number(int least, int most, int unlike) {
            String t = texts.get(at);
            if (!t.matches("[0-9]+")) {
                throw new Fault();
            }
            String bare = t.replaceFirst("^0+(?=.)", "");
            int v = bare.length() > 4 ? 10000 : Integer.parseInt(bare);
            if (v < least || v > most || v == unlike) {
                throw new Fault();
            }
            at++;
            return v;
        }
    }

    private static void item(World w, Tokens in) {
        int kind = WORDS.indexOf(in.texts.get(in.at));
        if (kind >= 0) {
            if (w.lanes.size() == 14) {
                throw new Fault();
            }
            in.at++;
            int one = in.number(0, 7, -1);
            int other = in.number(0, 7, one);
            int length = in.perhaps("long") ? in.number(1, 20, -1) : 5;
            w.lanes.add(new Lane(kind, one, other, length, in.perhaps("umbrella") ? 1 : 0));
        } else if (in.perhaps("spell")) {
            int i = in.number(0, 11, -1);
            if (in.perhaps("sun")) {
                w.sun[i] = in.number(0, 9, -1);
            }
            if (in.perhaps("rain")) {
                w.rain[i] = in.number(0, 9, -1);
            }
        } else if (in.perhaps("quarter")) {
            int corner = in.number(0, 7, -1);
            w.quarters[corner] = in.number(0, 3, -1);
        } else if (in.perhaps("salt")) {
            w.salt = 1;
        } else if (in.perhaps("sugar")) {
            w.salt = 0;
        } else {
            throw new Fault();
        }
    }

    public int text() {
        StringBuilder text = new StringBuilder();
        for (int b : tape) {
            text.append((char) b);
        }
        tape.clear();
        Tokens in = new Tokens(text.toString());
        World told = world.twin();
        int items = 0;
        try {
            do {
                item(told, in);
                items++;
            } while (in.perhaps(";"));
            if (in.at != in.texts.size() - 1) {
                throw new Fault();
            }
        } catch (Fault f) {
            return -1 - in.places.get(in.at);
        }
        world = told;
        return items;
    }

    // ---- spots, sheets, images

    public int hold(int spot, int street) {
        return act(() -> {
            in(spot, 0, 9);
            in(street, -1, world.lanes.size() - 1);
            world.spots[spot] = street;
            return 1;
        });
    }

    public int as(int spot, int kind) {
        return act(() -> {
            in(spot, 0, 9);
            in(kind, 0, 6);
            want(world.spots[spot] >= 0, Check.MISSING);
            Lane l = laneAt(world.spots[spot]);
            want(KINDS[kind].getClass().isInstance(KINDS[l.kind]), Check.KIND);
            return world.spots[spot];
        });
    }

    private Paper paper(int s) {
        want(papers[s] != null, Check.MISSING);
        return papers[s];
    }

    public int sheet(int s, int bits, int n) {
        return act(() -> {
            in(s, 0, 3);
            want(List.of(0, 8, 16, 32).contains(bits), Check.BEYOND);
            want(n >= 0, Check.SIZE);
            want(n <= 40, Check.BEYOND);
            papers[s] = null;
            if (bits == 0) {
                return 0;
            }
            papers[s] = new Paper();
            papers[s].bits = bits;
            papers[s].numbers = new int[n];
            return n;
        });
    }

    public int write(int s, int i, int v) {
        return act(() -> {
            in(s, 0, 3);
            Paper p = paper(s);
            in(i, 0, p.numbers.length - 1);
            int shift = 32 - p.bits;
            p.numbers[i] = v << shift >> shift;
            return 1;
        });
    }

    public int copy(int s, int from, int t, int to, int n) {
        return act(() -> {
            in(s, 0, 3);
            in(t, 0, 3);
            Paper p = paper(s);
            Paper q = paper(t);
            want(p.bits == q.bits, Check.KIND);
            want(from >= 0 && to >= 0 && n >= 0, Check.BEYOND);
            want((long) from + n <= p.numbers.length && (long) to + n <= q.numbers.length, Check.BEYOND);
            int[] were = p.numbers.clone();
            for (int i = 0; i < n; i++) {
                q.numbers[to + i] = were[from + i];
            }
            return n;
        });
    }

    public int load(int s) {
        return act(() -> {
            in(s, 0, 3);
            Paper p = paper(s);
            int came = 0;
            for (int v : p.numbers) {
                if (v < 0 || v > 9 || came == 12) {
                    break;
                }
                world.sun[came++] = v;
            }
            return came;
        });
    }

    public int judge(int s) {
        return act(() -> {
            in(s, 0, 3);
            Paper p = paper(s);
            World trial = world.twin();
            for (int to : p.numbers) {
                want(to >= 0 && to <= 7, Check.NONE);
                Lane l = trial.lane(trial.corner, to);
                want(l != null, Check.NONE);
                want(trial.minute + l.takes() <= 999, Check.STATE);
                trial.along(l, to);
            }
            return trial.all();
        });
    }

    public int image() {
        kept = world.twin();
        return 1;
    }

    public int undo() {
        return act(() -> {
            want(kept != null, Check.NONE);
            world = kept.twin();
            return world.minute;
        });
    }

    public int tear() {
        int had = kept == null ? 0 : 1;
        kept = null;
        return had;
    }

    public int count(int what) {
        return act(() -> {
            in(what, 0, 7);
            World w = world;
            return new int[] {w.lanes.size(), w.lanes.stream().mapToInt(Lane::takes).sum(),
                w.lanes.stream().mapToInt(l -> l.umbrella).sum(), Arrays.stream(w.sun).sum(),
                Arrays.stream(w.rain).sum(), tape.size(), w.z,
                (int) Arrays.stream(w.spots).filter(s -> s >= 0).count()}[what];
        });
    }

    public int status(int which) {
        return act(() -> {
            in(which, -1, 6);
            return which == -1 ? Arrays.stream(told).sum() : told[which];
        });
    }
}
