import java.util.Arrays;

/**
 * A saint of sugar (or salt) who is carried through the streets of a town: what melts of her where,
 * which ways and rounds bring most of her home, weather by draws, towns from texts.
 *
 * Nothing is allocated after the constructor: every call works on rows that the object already has.
 */
public final class SugarSaint {

    private static final int LOW = -1000001;
    private static final int BEYOND = 0;
    private static final int FULL = 1;
    private static final int KIND = 2;
    private static final int NONE = 3;
    private static final int STATE = 4;
    private static final int MISSING = 5;
    private static final int SIZE = 6;
    private static final int FINDINGS = 7;

    private static final int CORNERS = 8;
    private static final int QUARTERS = 4;
    private static final int STREETS = 14;
    private static final int LONGEST = 20;
    private static final int USUAL_LENGTH = 5;
    private static final int SPELLS = 12;
    private static final int SPELL_MINUTES = 20;
    private static final int TOP_WEATHER = 9;

    private static final int STREET = 0;
    private static final int SHADED = 1;
    private static final int WINDY = 2;
    private static final int CHAPEL = 3;
    private static final int STEEP = 4;
    private static final int CROWDED = 5;
    private static final int ANTS = 6;
    private static final int KINDS = 7;

    private static final int PARTS = 4;
    private static final int HALO = 0;
    private static final int ARMS = 1;
    private static final int FACE = 2;
    private static final int BODY = 3;
    private static final int MOST_GRAINS = 9999;

    private static final int HOME = 0;
    private static final int SUGAR = 0;
    private static final int SALT = 1;
    private static final int LAST_MINUTE = 999;
    private static final int LAST_TO_PLAN = 700;
    private static final int LONGEST_WAIT = 60;
    private static final int MOST_DRAWN = 12;

    private static final int TAPE = 120;
    private static final int SPOTS = 10;
    private static final int SHEETS = 4;
    private static final int SHEET_NUMBERS = 40;

    private final Scene scene = new Scene();
    private final Scene kept = new Scene();
    private boolean hasKept = false;
    /** A town to try things out on, so that asking never touches the real one. */
    private final Town draft = new Town();
    private final Seeker seeker = new Seeker();
    private final Reader reader = new Reader();
    private final Sheet[] sheets = new Sheet[SHEETS];
    private final int[] told = new int[FINDINGS];

    public SugarSaint() {
        for (int i = 0; i < SHEETS; i++) {
            sheets[i] = new Sheet();
        }
    }

    // ---- the town

    public int street(int kind, int one, int other, int length) {
        if (!isKind(kind) || !isCorner(one) || !isCorner(other) || one == other
                || !isIn(length, 1, LONGEST)) {
            return finding(BEYOND);
        }
        if (scene.town.isFull()) {
            return finding(FULL);
        }
        return scene.town.add(kind, one, other, length, 0);
    }

    public int of(int street, int what) {
        if (!scene.town.has(street)) {
            return finding(BEYOND);
        }
        Street asked = scene.town.streets[street];
        switch (what) {
            case 0: return asked.kind;
            case 1: return Math.min(asked.one, asked.other);
            case 2: return Math.max(asked.one, asked.other);
            case 3: return asked.length;
            case 4: return asked.umbrella;
            case 5: return asked.takes();
            case 6: return Street.licks(asked.kind);
            default: return finding(BEYOND);
        }
    }

    public int change(int street, int what, int v) {
        if (!scene.town.has(street)) {
            return finding(BEYOND);
        }
        Street changed = scene.town.streets[street];
        int was;
        if (what == 0 && isKind(v)) {
            was = changed.kind;
            changed.kind = v;
        } else if (what == 3 && isIn(v, 1, LONGEST)) {
            was = changed.length;
            changed.length = v;
        } else if (what == 4 && isIn(v, 0, 1)) {
            was = changed.umbrella;
            changed.umbrella = v;
        } else {
            was = finding(BEYOND);
        }
        return was;
    }

    public int quarter(int corner, int v) {
        if (!isCorner(corner) || !isIn(v, 0, QUARTERS - 1)) {
            return finding(BEYOND);
        }
        return put(scene.town.quarters, corner, v);
    }

    public int spell(int i, int what, int v) {
        if (!isIn(i, 0, SPELLS - 1) || !isIn(what, 0, 1) || !isIn(v, 0, TOP_WEATHER)) {
            return finding(BEYOND);
        }
        return put(what == 0 ? scene.town.sun : scene.town.rain, i, v);
    }

    public int loss(int street, int i) {
        if (!scene.town.has(street) || !isIn(i, 0, SPELLS - 1)) {
            return finding(BEYOND);
        }
        Town town = scene.town;
        return town.streets[street].lossBy(town.sun[i], town.rain[i], scene.saint.salt);
    }

    public int next(int corner) {
        if (!isCorner(corner)) {
            return finding(BEYOND);
        }
        return scene.town.neighbours(corner);
    }

    public int by(int one, int other) {
        if (!isCorner(one) || !isCorner(other) || one == other) {
            return finding(BEYOND);
        }
        int street = scene.town.between(one, other);
        return street < 0 ? finding(NONE) : street;
    }

    // ---- the saint

    public int grains(int part, int v) {
        if (!isIn(part, 0, PARTS - 1) || !isIn(v, 0, MOST_GRAINS)) {
            return finding(BEYOND);
        }
        return put(scene.saint.grains, part, v);
    }

    public int now(int what) {
        Saint saint = scene.saint;
        if (isIn(what, 0, PARTS - 1)) {
            return saint.grains[what];
        }
        switch (what) {
            case 4: return saint.total();
            case 5: return saint.salt;
            case 6: return saint.corner;
            case 7: return saint.minute;
            case 8: return saint.seen;
            case 9: return saint.molten;
            default: return finding(BEYOND);
        }
    }

    public int made(int v) {
        if (!isIn(v, SUGAR, SALT)) {
            return finding(BEYOND);
        }
        int was = scene.saint.salt;
        scene.saint.salt = v;
        return was;
    }

    public int carry(int corner) {
        if (!isCorner(corner)) {
            return finding(BEYOND);
        }
        int street = scene.town.between(scene.saint.corner, corner);
        if (street < 0) {
            return finding(NONE);
        }
        if (scene.isTooLate(street)) {
            return finding(STATE);
        }
        return scene.carryAlong(street, corner);
    }

    public int wait(int n) {
        if (!isIn(n, 1, LONGEST_WAIT)) {
            return finding(BEYOND);
        }
        if (scene.saint.minute + n > LAST_MINUTE) {
            return finding(STATE);
        }
        scene.saint.minute += n;
        return scene.saint.minute;
    }

    public int day() {
        int saw = Integer.bitCount(scene.saint.seen);
        scene.saint.beginDay();
        return saw;
    }

    // ---- ways (nothing changes)

    public int costs(int street, int m) {
        if (!scene.town.has(street) || !isIn(m, 0, LAST_MINUTE)) {
            return finding(BEYOND);
        }
        return costsIn(scene.town, street, m);
    }

    public int most(int corner) {
        int trouble = findWays(corner);
        if (trouble != 0) {
            return trouble;
        }
        return seeker.left;
    }

    public int way(int corner, int i) {
        if (!isIn(i, 0, CORNERS - 2)) {
            return finding(BEYOND);
        }
        int trouble = findWays(corner);
        if (trouble != 0) {
            return trouble;
        }
        return i < seeker.firstLength ? seeker.first[i] : finding(NONE);
    }

    public int soonest(int corner) {
        int trouble = findWays(corner);
        if (trouble != 0) {
            return trouble;
        }
        return seeker.fewest;
    }

    public int ways(int corner) {
        if (!isCorner(corner)) {
            return finding(BEYOND);
        }
        seekWays(corner);
        return seeker.found;
    }

    public int round() {
        if (isPastPlanning()) {
            return finding(STATE);
        }
        seekRounds(scene.town, scene.saint.salt, -1);
        return seeker.found == 0 ? finding(NONE) : seeker.left;
    }

    public int ith(int i) {
        if (!isIn(i, 0, CORNERS - 2)) {
            return finding(BEYOND);
        }
        if (isPastPlanning()) {
            return finding(STATE);
        }
        seekRounds(scene.town, scene.saint.salt, -1);
        return i < seeker.firstLength ? seeker.first[i] : finding(NONE);
    }

    public int rounds() {
        if (isPastPlanning()) {
            return finding(STATE);
        }
        seekRounds(scene.town, scene.saint.salt, -1);
        return seeker.found;
    }

    public int start() {
        if (isPastPlanning()) {
            return finding(STATE);
        }
        int best = -1;
        int bestLeft = -1;
        seeker.prepare(scene.town, scene.saint, scene.saint.salt, -1);
        for (int waited = 0; waited <= LONGEST_WAIT; waited++) {
            seeker.seek(Seeker.ROUNDS, scene.saint.minute + waited);
            if (seeker.left > bestLeft) {
                bestLeft = seeker.left;
                best = waited;
            }
        }
        return best < 0 ? finding(NONE) : best;
    }

    public int better() {
        if (isPastPlanning()) {
            return finding(STATE);
        }
        int best = -1;
        int bestLeft = -1;
        for (int salt = SUGAR; salt <= SALT; salt++) {
            seekRounds(scene.town, salt, -1);
            if (seeker.left > bestLeft) {
                bestLeft = seeker.left;
                best = salt;
            }
        }
        return best < 0 ? finding(NONE) : best;
    }

    // ---- umbrellas, streets

    public int umbrella() {
        if (isPastPlanning()) {
            return finding(STATE);
        }
        int best = -1;
        int bestLeft = -1;
        draft.takeFrom(scene.town);
        for (int street = 0; street < draft.size; street++) {
            Street tried = draft.streets[street];
            if (tried.umbrella == 0) {
                tried.umbrella = 1;
                seekRounds(draft, scene.saint.salt, -1);
                tried.umbrella = 0;
                if (seeker.left > bestLeft) {
                    bestLeft = seeker.left;
                    best = street;
                }
            }
        }
        return best < 0 ? finding(NONE) : best;
    }

    public int shade() {
        if (isPastPlanning()) {
            return finding(STATE);
        }
        int best = -1;
        int bestLeft = -1;
        draft.takeFrom(scene.town);
        for (int street = 0; street < draft.size; street++) {
            Street tried = draft.streets[street];
            int was = tried.kind;
            tried.kind = SHADED;
            seekRounds(draft, scene.saint.salt, -1);
            tried.kind = was;
            if (seeker.left > bestLeft) {
                bestLeft = seeker.left;
                best = street;
            }
        }
        return best < 0 ? finding(NONE) : best;
    }

    public int needed() {
        if (isPastPlanning()) {
            return finding(STATE);
        }
        seekRounds(scene.town, scene.saint.salt, -1);
        if (seeker.found == 0) {
            return finding(NONE);
        }
        int set = 0;
        for (int street = 0; street < scene.town.size; street++) {
            seekRounds(scene.town, scene.saint.salt, street);
            if (seeker.found == 0) {
                set |= 1 << street;
            }
        }
        return set;
    }

    public int kindFor(int street) {
        if (!scene.town.has(street)) {
            return finding(BEYOND);
        }
        draft.takeFrom(scene.town);
        int best = STREET;
        int least = 0;
        for (int kind = 0; kind < KINDS; kind++) {
            draft.streets[street].kind = kind;
            int cost = costsIn(draft, street, scene.saint.minute);
            if (kind == 0 || cost < least) {
                least = cost;
                best = kind;
            }
        }
        return best;
    }

    public int reach() {
        int reached = 1 << scene.saint.corner;
        // each pass goes one street further, and no corner is more than seven streets off
        for (int pass = 1; pass < CORNERS; pass++) {
            int wider = reached;
            for (int corner = 0; corner < CORNERS; corner++) {
                if (isInSet(reached, corner)) {
                    wider |= scene.town.neighbours(corner);
                }
            }
            reached = wider;
        }
        return reached;
    }

    // ---- weather, years

    public int sky(int n) {
        if (!isIn(n, 1, MOST_DRAWN)) {
            return finding(BEYOND);
        }
        for (int i = 0; i < n; i++) {
            int spell = scene.draw() % SPELLS;
            scene.town.sun[spell] = scene.draw() % 10;
            scene.town.rain[spell] = Math.max(0, scene.draw() % 10 - 5);
        }
        return sumOf(scene.town.rain);
    }

    public int stray(int n) {
        if (!isIn(n, 1, MOST_DRAWN)) {
            return finding(BEYOND);
        }
        for (int i = 0; i < n; i++) {
            int corner = scene.drawNeighbour();
            int street = corner < 0 ? -1 : scene.town.between(scene.saint.corner, corner);
            if (street < 0 || scene.isTooLate(street)) {
                break;
            }
            scene.carryAlong(street, corner);
        }
        return scene.saint.total();
    }

    public int year() {
        scene.saint.remake();
        scene.saint.beginDay();
        return scene.saint.total();
    }

    public int seed(int v) {
        int was = scene.z;
        scene.z = v;
        return was;
    }

    // ---- texts

    public int feed(int bytes, int n) {
        if (!isIn(n, 1, 4)) {
            return finding(BEYOND);
        }
        if (reader.size + n > TAPE) {
            return finding(FULL);
        }
        for (int i = n - 1; i >= 0; i--) {
            reader.append(bytes >>> (8 * i) & 255);
        }
        return reader.size;
    }

    public int wipe() {
        int had = reader.size;
        reader.size = 0;
        return had;
    }

    public int text() {
        // told to a copy of the town, so that a fault leaves no half-told text behind
        reader.town.takeFrom(scene.town);
        reader.salt = scene.saint.salt;
        int answer = reader.readAll();
        reader.size = 0;
        if (answer >= 0) {
            scene.town.takeFrom(reader.town);
            scene.saint.salt = reader.salt;
        }
        return answer;
    }

    // ---- spots, sheets

    public int hold(int spot, int street) {
        if (!isIn(spot, 0, SPOTS - 1) || street != -1 && !scene.town.has(street)) {
            return finding(BEYOND);
        }
        scene.spots[spot] = street;
        return 1;
    }

    public int as(int spot, int kind) {
        if (!isIn(spot, 0, SPOTS - 1) || !isKind(kind)) {
            return finding(BEYOND);
        }
        int street = scene.spots[spot];
        if (!scene.town.has(street)) {
            return finding(MISSING);
        }
        return Street.isUnder(scene.town.streets[street].kind, kind) ? street : finding(KIND);
    }

    public int sheet(int s, int bits, int n) {
        if (!isSheet(s) || bits != 0 && bits != 8 && bits != 16 && bits != 32) {
            return finding(BEYOND);
        }
        if (n < 0) {
            return finding(SIZE);
        }
        if (n > SHEET_NUMBERS) {
            return finding(BEYOND);
        }
        sheets[s].remake(bits, n);
        return sheets[s].size;
    }

    public int write(int s, int i, int v) {
        if (!isSheet(s)) {
            return finding(BEYOND);
        }
        if (sheets[s].isMissing()) {
            return finding(MISSING);
        }
        if (!isIn(i, 0, sheets[s].size - 1)) {
            return finding(BEYOND);
        }
        sheets[s].set(i, v);
        return 1;
    }

    public int copy(int s, int from, int t, int to, int n) {
        if (!isSheet(s) || !isSheet(t)) {
            return finding(BEYOND);
        }
        Sheet source = sheets[s];
        Sheet target = sheets[t];
        if (source.isMissing() || target.isMissing()) {
            return finding(MISSING);
        }
        if (source.bits != target.bits) {
            return finding(KIND);
        }
        if (!source.hasRange(from, n) || !target.hasRange(to, n)) {
            return finding(BEYOND);
        }
        System.arraycopy(source.numbers, from, target.numbers, to, n);
        return n;
    }

    public int load(int s) {
        if (!isSheet(s)) {
            return finding(BEYOND);
        }
        if (sheets[s].isMissing()) {
            return finding(MISSING);
        }
        int came = 0;
        while (came < sheets[s].size && came < SPELLS
                && isIn(sheets[s].numbers[came], 0, TOP_WEATHER)) {
            scene.town.sun[came] = sheets[s].numbers[came];
            came++;
        }
        return came;
    }

    public int judge(int s) {
        if (!isSheet(s)) {
            return finding(BEYOND);
        }
        if (sheets[s].isMissing()) {
            return finding(MISSING);
        }
        Town town = scene.town;
        int corner = scene.saint.corner;
        int minute = scene.saint.minute;
        int lost = 0;
        for (int i = 0; i < sheets[s].size; i++) {
            int target = sheets[s].numbers[i];
            int street = isCorner(target) ? town.between(corner, target) : -1;
            if (street < 0) {
                return finding(NONE);
            }
            lost += town.lossAlong(street, minute, scene.saint.salt);
            minute += town.streets[street].takes();
            if (minute > LAST_MINUTE) {
                return finding(STATE);
            }
            corner = target;
        }
        return Math.max(0, scene.saint.total() - lost);
    }

    // ---- images

    public int image() {
        kept.takeFrom(scene);
        hasKept = true;
        return 1;
    }

    public int undo() {
        if (!hasKept) {
            return finding(NONE);
        }
        scene.takeFrom(kept);
        return scene.saint.minute;
    }

    public int tear() {
        int had = hasKept ? 1 : 0;
        hasKept = false;
        return had;
    }

    public int count(int what) {
        switch (what) {
            case 0: return scene.town.size;
            case 1: return scene.town.takesOfAll();
            case 2: return scene.town.umbrellas();
            case 3: return sumOf(scene.town.sun);
            case 4: return sumOf(scene.town.rain);
            case 5: return reader.size;
            case 6: return scene.z;
            case 7: return scene.spotsHeld();
            default: return finding(BEYOND);
        }
    }

    public int status(int which) {
        if (which == -1) {
            return sumOf(told);
        }
        return isIn(which, 0, FINDINGS - 1) ? told[which] : finding(BEYOND);
    }

    // ---- what several acts share

    private int finding(int which) {
        if (isIn(which, 0, FINDINGS - 1)) {
            told[which]++;
        }
        return LOW - which;
    }

    private boolean isPastPlanning() {
        return scene.saint.minute > LAST_TO_PLAN;
    }

    /** Looks for all ways to a corner, if it may be asked now: 0 if there is one, else the finding. */
    private int findWays(int corner) {
        if (!isCorner(corner)) {
            return finding(BEYOND);
        }
        if (isPastPlanning()) {
            return finding(STATE);
        }
        seekWays(corner);
        return seeker.found == 0 ? finding(NONE) : 0;
    }

    private void seekWays(int corner) {
        seeker.prepare(scene.town, scene.saint, scene.saint.salt, -1);
        seeker.seek(corner, scene.saint.minute);
    }

    /** Looks for all rounds from now on, in a town without a street (-1: with all). */
    private void seekRounds(Town town, int salt, int without) {
        seeker.prepare(town, scene.saint, salt, without);
        seeker.seek(Seeker.ROUNDS, scene.saint.minute);
    }

    private int costsIn(Town town, int street, int minute) {
        return Math.min(scene.saint.total(), town.lossAlong(street, minute, scene.saint.salt));
    }

    private static boolean isIn(int v, int least, int most) {
        return v >= least && v <= most;
    }

    private static boolean isCorner(int v) {
        return isIn(v, 0, CORNERS - 1);
    }

    private static boolean isKind(int v) {
        return isIn(v, 0, KINDS - 1);
    }

    private static boolean isSheet(int v) {
        return isIn(v, 0, SHEETS - 1);
    }

    private static boolean isInSet(int set, int member) {
        return (set >>> member & 1) != 0;
    }

    private static int put(int[] row, int i, int v) {
        int was = row[i];
        row[i] = v;
        return was;
    }

    private static int sumOf(int[] row) {
        int sum = 0;
        for (int v : row) {
            sum += v;
        }
        return sum;
    }

    /** One street, and what its kind does to her. */
    private static final class Street {
        int kind = STREET;
        int one = 0;
        int other = 1;
        int length = USUAL_LENGTH;
        int umbrella = 0;

        void takeFrom(Street from) {
            kind = from.kind;
            one = from.one;
            other = from.other;
            length = from.length;
            umbrella = from.umbrella;
        }

        /** The corner at the other end, or -1 if this street does not come to that corner. */
        int across(int corner) {
            if (corner == one) {
                return other;
            }
            return corner == other ? one : -1;
        }

        int takes() {
            switch (kind) {
                case STEEP: return length + length / 2;
                case CROWDED:
                case ANTS: return length + 2;
                default: return length;
            }
        }

        int lossBy(int sun, int rain, int salt) {
            int bySun = meltsBySun(kind, sun);
            int byRain = umbrella == 1 ? 0 : wets(kind, rain);
            return salt == SALT ? bySun / 2 + byRain * 2 : bySun + byRain + licks(kind);
        }

        static int meltsBySun(int kind, int sun) {
            int inTheOpen = 2 * sun;
            switch (kind) {
                case SHADED: return inTheOpen / 2;
                case WINDY:
                case STEEP: return Math.max(0, inTheOpen - 3);
                case CHAPEL: return 0;
                default: return inTheOpen;
            }
        }

        static int wets(int kind, int rain) {
            switch (kind) {
                case CHAPEL: return 0;
                case WINDY:
                case STEEP: return 5 * rain + rain;
                default: return 5 * rain;
            }
        }

        static int licks(int kind) {
            switch (kind) {
                case CROWDED: return 2;
                case ANTS: return 2 + 3;
                default: return 0;
            }
        }

        static int above(int kind) {
            switch (kind) {
                case SHADED:
                case WINDY:
                case CROWDED: return STREET;
                case CHAPEL: return SHADED;
                case STEEP: return WINDY;
                case ANTS: return CROWDED;
                default: return -1;
            }
        }

        /** Whether a kind is the sought one or stands somewhere under it. */
        static boolean isUnder(int kind, int sought) {
            int looked = kind;
            for (int step = 0; step < KINDS && looked >= 0; step++) {
                if (looked == sought) {
                    return true;
                }
                looked = above(looked);
            }
            return false;
        }
    }

    /** Streets, quarters and the weather over them. */
    private static final class Town {
        final Street[] streets = new Street[STREETS];
        int size = 0;
        final int[] quarters = new int[CORNERS];
        final int[] sun = new int[SPELLS];
        final int[] rain = new int[SPELLS];
        private final int[] losses = new int[SPELLS];

        Town() {
            for (int i = 0; i < STREETS; i++) {
                streets[i] = new Street();
            }
            for (int corner = 0; corner < CORNERS; corner++) {
                quarters[corner] = corner % QUARTERS;
            }
            for (int spell = 0; spell < SPELLS; spell++) {
                sun[spell] = 3;
            }
        }

        void takeFrom(Town from) {
            size = from.size;
            for (int i = 0; i < size; i++) {
                streets[i].takeFrom(from.streets[i]);
            }
            System.arraycopy(from.quarters, 0, quarters, 0, CORNERS);
            System.arraycopy(from.sun, 0, sun, 0, SPELLS);
            System.arraycopy(from.rain, 0, rain, 0, SPELLS);
        }

        boolean has(int street) {
            return isIn(street, 0, size - 1);
        }

        boolean isFull() {
            return size >= STREETS;
        }

        /** A new street's number, or -1 if there is no room for it. */
        int add(int kind, int one, int other, int length, int umbrella) {
            if (isFull()) {
                return -1;
            }
            Street added = streets[size];
            added.kind = kind;
            added.one = one;
            added.other = other;
            added.length = length;
            added.umbrella = umbrella;
            size++;
            return size - 1;
        }

        int neighbours(int corner) {
            int set = 0;
            for (int i = 0; i < size; i++) {
                int far = streets[i].across(corner);
                if (far >= 0) {
                    set |= 1 << far;
                }
            }
            return set;
        }

        /** The street by which one goes from a corner to another, or -1. */
        int between(int one, int other) {
            for (int i = 0; i < size; i++) {
                if (streets[i].across(one) == other) {
                    return i;
                }
            }
            return -1;
        }

        /** Quarters of the corners that streets come to, as a set. */
        int quartersOnStreets() {
            int set = 0;
            for (int i = 0; i < size; i++) {
                set |= 1 << quarters[streets[i].one] | 1 << quarters[streets[i].other];
            }
            return set;
        }

        /** Writes what a minute on a street takes in each spell into a row, from a place on. */
        void tellLosses(int street, int salt, int[] row, int place) {
            if (place < 0 || place > row.length - SPELLS) {
                return;
            }
            Street asked = streets[street];
            for (int spell = 0; spell < SPELLS; spell++) {
                row[place + spell] = asked.lossBy(sun[spell], rain[spell], salt);
            }
        }

        /** All that a street takes off her from a minute on, if she has so much. */
        int lossAlong(int street, int from, int salt) {
            tellLosses(street, salt, losses, 0);
            return sumAlong(losses, 0, from, streets[street].takes());
        }

        /** What so many minutes take, by a row of losses in each spell that begins at a place. */
        static int sumAlong(int[] row, int place, int from, int takes) {
            int end = from + takes;
            int minute = from;
            int sum = 0;
            int spell = Math.min(from / SPELL_MINUTES, SPELLS - 1);
            for (; spell < SPELLS && minute < end; spell++) {
                // the last spell goes on and on
                int stop = spell < SPELLS - 1 ? Math.min(end, (spell + 1) * SPELL_MINUTES) : end;
                sum += (stop - minute) * row[place + spell];
                minute = stop;
            }
            return sum;
        }

        int takesOfAll() {
            int sum = 0;
            for (int i = 0; i < size; i++) {
                sum += streets[i].takes();
            }
            return sum;
        }

        int umbrellas() {
            int sum = 0;
            for (int i = 0; i < size; i++) {
                sum += streets[i].umbrella;
            }
            return sum;
        }
    }

    /** Her grains, where she stands and since when. */
    private static final class Saint {
        final int[] grains = new int[PARTS];
        int salt = SUGAR;
        int corner = HOME;
        int minute = 0;
        int seen = 0;
        int molten = 0;

        Saint() {
            grains[HALO] = 100;
            grains[ARMS] = 200;
            grains[FACE] = 200;
            grains[BODY] = 500;
        }

        void takeFrom(Saint from) {
            System.arraycopy(from.grains, 0, grains, 0, PARTS);
            salt = from.salt;
            corner = from.corner;
            minute = from.minute;
            seen = from.seen;
            molten = from.molten;
        }

        int total() {
            return sumOf(grains);
        }

        /** How much must melt from now on until her face has nothing left (0: it has nothing now). */
        int faceLasts() {
            return grains[FACE] == 0 ? 0 : grains[HALO] + grains[ARMS] + grains[FACE];
        }

        /** Takes a loss off her parts in their order: what really melts. */
        int melt(int loss) {
            int open = loss;
            for (int part = 0; part < PARTS; part++) {
                int off = Math.min(open, grains[part]);
                grains[part] -= off;
                open -= off;
            }
            molten += loss - open;
            return loss - open;
        }

        void beginDay() {
            minute = 0;
            seen = 0;
            corner = HOME;
        }

        void remake() {
            int all = total();
            grains[HALO] = all / 10;
            grains[ARMS] = all * 2 / 10;
            grains[FACE] = all * 2 / 10;
            grains[BODY] = all - grains[HALO] - grains[ARMS] - grains[FACE];
        }
    }

    /** All that an image keeps. */
    private static final class Scene {
        final Town town = new Town();
        final Saint saint = new Saint();
        final int[] spots = new int[SPOTS];
        int z = 1;

        Scene() {
            for (int i = 0; i < SPOTS; i++) {
                spots[i] = -1;
            }
        }

        void takeFrom(Scene from) {
            town.takeFrom(from.town);
            saint.takeFrom(from.saint);
            System.arraycopy(from.spots, 0, spots, 0, SPOTS);
            z = from.z;
        }

        int draw() {
            z = z * 1103515245 + 12345;
            return z >>> 8;
        }

        /** A corner next to hers by a draw, or -1, without a draw, if there is none. */
        int drawNeighbour() {
            int set = town.neighbours(saint.corner);
            int choices = Integer.bitCount(set);
            if (choices == 0) {
                return -1;
            }
            int ahead = draw() % choices;
            for (int corner = 0; corner < CORNERS; corner++) {
                if (isInSet(set, corner)) {
                    if (ahead == 0) {
                        return corner;
                    }
                    ahead--;
                }
            }
            return -1;
        }

        boolean isTooLate(int street) {
            return saint.minute + town.streets[street].takes() > LAST_MINUTE;
        }

        /** Carries her along a street to its other corner: what melts. */
        int carryAlong(int street, int corner) {
            int melted = saint.melt(town.lossAlong(street, saint.minute, saint.salt));
            saint.minute += town.streets[street].takes();
            saint.corner = corner;
            if (saint.grains[FACE] > 0) {
                saint.seen |= 1 << town.quarters[corner];
            }
            return melted;
        }

        int spotsHeld() {
            int held = 0;
            for (int street : spots) {
                if (street >= 0) {
                    held++;
                }
            }
            return held;
        }
    }

    /**
     * Goes all ways, or all rounds, in their order, and keeps the first that leaves most.
     * What she loses on the way is one sum: her parts melt in their order, so the sum alone says
     * what is left of her and whether her face still has grains.
     */
    private static final class Seeker {
        static final int ROUNDS = -1;

        /** By which street one goes from a corner to another (8 * one + other), or -1. */
        private final int[] links = new int[CORNERS * CORNERS];
        private final int[] takes = new int[STREETS];
        /** What a minute takes, by street and spell (12 * street + spell). */
        private final int[] losses = new int[STREETS * SPELLS];
        private final int[] quarters = new int[CORNERS];
        private int wanted = 0;
        private int origin = HOME;
        private int total = 0;
        private int faceLasts = 0;
        private int seenAhead = 0;

        private int goal = ROUNDS;
        private int begin = 0;
        private final int[] path = new int[CORNERS - 1];

        int found = 0;
        /** The most left, or -1 if nothing was found. */
        int left = -1;
        int fewest = 0;
        final int[] first = new int[CORNERS - 1];
        int firstLength = 0;

        /** Takes in a town (one street perhaps thought away, else -1) and her, if she were of that. */
        void prepare(Town town, Saint saint, int salt, int without) {
            Arrays.fill(links, -1);
            // from the greatest number down, so that of several streets the least one stays
            for (int i = town.size - 1; i >= 0; i--) {
                Street street = town.streets[i];
                takes[i] = street.takes();
                town.tellLosses(i, salt, losses, SPELLS * i);
                if (i != without) {
                    links[CORNERS * street.one + street.other] = i;
                    links[CORNERS * street.other + street.one] = i;
                }
            }
            System.arraycopy(town.quarters, 0, quarters, 0, CORNERS);
            wanted = town.quartersOnStreets();
            origin = saint.corner;
            total = saint.total();
            faceLasts = saint.faceLasts();
            seenAhead = saint.seen;
        }

        /** Goes all ways to a corner, or all rounds that show her to all, from a minute on. */
        void seek(int target, int minute) {
            goal = target;
            begin = minute;
            found = 0;
            left = -1;
            fewest = 0;
            firstLength = 0;
            walk(origin, minute, 0, seenAhead, 1 << origin, 0);
        }

        private void walk(int corner, int minute, int lost, int seen, int visited, int depth) {
            if (corner == goal) {
                note(minute, lost, depth);
                return;
            }
            if (goal == ROUNDS && depth > 0) {
                closeRound(corner, minute, lost, seen, depth);
            }
            // all corners are unlike, so none is left by then anyhow
            if (depth >= path.length) {
                return;
            }
            for (int target = 0; target < CORNERS; target++) {
                int street = links[CORNERS * corner + target];
                if (street >= 0 && !isInSet(visited, target)) {
                    path[depth] = target;
                    int lostThen = lost + Town.sumAlong(losses, SPELLS * street, minute, takes[street]);
                    walk(target, minute + takes[street], lostThen,
                            seenAt(target, lostThen, seen), visited | 1 << target, depth + 1);
                }
            }
        }

        private void closeRound(int corner, int minute, int lost, int seen, int depth) {
            int street = links[CORNERS * corner + origin];
            if (street < 0) {
                return;
            }
            int lostThen = lost + Town.sumAlong(losses, SPELLS * street, minute, takes[street]);
            if ((wanted & ~seenAt(origin, lostThen, seen)) == 0) {
                note(minute + takes[street], lostThen, depth);
            }
        }

        private int seenAt(int corner, int lost, int seen) {
            return lost < faceLasts ? seen | 1 << quarters[corner] : seen;
        }

        private void note(int minute, int lost, int length) {
            int leaves = Math.max(0, total - lost);
            int minutes = minute - begin;
            fewest = found == 0 ? minutes : Math.min(fewest, minutes);
            found++;
            if (leaves > left) {
                left = leaves;
                firstLength = length;
                System.arraycopy(path, 0, first, 0, length);
            }
        }
    }

    /** The tape, and what reads a text from it, token by token, into a town. */
    private static final class Reader {
        private static final int END = 0;
        private static final int WORD = 1;
        private static final int NUMBER = 2;
        private static final int SIGN = 3;
        private static final int NO_TOKEN = 4;
        private static final int TOP_NUMBER = 9999;

        private final int[] bytes = new int[TAPE];
        int size = 0;
        final Town town = new Town();
        int salt = SUGAR;

        private int type = END;
        private int begin = 0;
        private int end = 0;
        private int value = 0;

        void append(int v) {
            if (size < TAPE) {
                bytes[size] = v;
                size++;
            }
        }

        /** How many items there are, or -1 less the fault; the town is half told then. */
        int readAll() {
            end = 0;
            for (int items = 1; items <= TAPE; items++) {
                advance();
                if (!readItem()) {
                    break;
                }
                if (type == END) {
                    return items;
                }
                if (type != SIGN) {
                    break;
                }
            }
            return -1 - begin;
        }

        /** Goes to the next token; the end of the tape is one, too, that begins behind all bytes. */
        private void advance() {
            begin = end;
            while (begin < size && byteAt(begin) == ' ') {
                begin++;
            }
            end = begin;
            value = 0;
            if (begin >= size) {
                type = END;
            } else if (isLetter(byteAt(begin))) {
                type = WORD;
                while (end < size && isLetter(byteAt(end))) {
                    end++;
                }
            } else if (isDigit(byteAt(begin))) {
                type = NUMBER;
                while (end < size && isDigit(byteAt(end))) {
                    value = Math.min(TOP_NUMBER + 1, value * 10 + byteAt(end) - '0');
                    end++;
                }
            } else {
                type = byteAt(begin) == ';' ? SIGN : NO_TOKEN;
                end++;
            }
        }

        /** One item; false leaves the token at hand that can't stand there. */
        private boolean readItem() {
            int kind = kindByWord();
            if (kind >= 0) {
                return !town.isFull() && readStreet(kind);
            }
            if (isWord("spell")) {
                return readSpell();
            }
            if (isWord("quarter")) {
                return readQuarter();
            }
            if (isWord("salt") || isWord("sugar")) {
                salt = isWord("salt") ? SALT : SUGAR;
                advance();
                return true;
            }
            return false;
        }

        private boolean readStreet(int kind) {
            advance();
            if (!isNumber(0, CORNERS - 1)) {
                return false;
            }
            int one = value;
            advance();
            if (!isNumber(0, CORNERS - 1) || value == one) {
                return false;
            }
            int other = value;
            advance();
            int length = USUAL_LENGTH;
            if (isWord("long")) {
                advance();
                if (!isNumber(1, LONGEST)) {
                    return false;
                }
                length = value;
                advance();
            }
            int umbrella = 0;
            if (isWord("umbrella")) {
                umbrella = 1;
                advance();
            }
            town.add(kind, one, other, length, umbrella);
            return true;
        }

        private boolean readSpell() {
            advance();
            if (!isNumber(0, SPELLS - 1)) {
                return false;
            }
            int spell = value;
            advance();
            return readWeather("sun", town.sun, spell) && readWeather("rain", town.rain, spell);
        }

        /** Perhaps a word and a number for a spell; false only if the word lacks its number. */
        private boolean readWeather(String word, int[] row, int spell) {
            if (!isWord(word)) {
                return true;
            }
            advance();
            if (!isNumber(0, TOP_WEATHER)) {
                return false;
            }
            row[spell] = value;
            advance();
            return true;
        }

        private boolean readQuarter() {
            advance();
            if (!isNumber(0, CORNERS - 1)) {
                return false;
            }
            int corner = value;
            advance();
            if (!isNumber(0, QUARTERS - 1)) {
                return false;
            }
            town.quarters[corner] = value;
            advance();
            return true;
        }

        private int kindByWord() {
            for (int kind = 0; kind < KINDS; kind++) {
                if (isWord(wordFor(kind))) {
                    return kind;
                }
            }
            return -1;
        }

        private static String wordFor(int kind) {
            switch (kind) {
                case SHADED: return "shaded";
                case WINDY: return "windy";
                case CHAPEL: return "chapel";
                case STEEP: return "steep";
                case CROWDED: return "crowded";
                case ANTS: return "ants";
                default: return "street";
            }
        }

        private boolean isWord(String word) {
            if (type != WORD || end - begin != word.length()) {
                return false;
            }
            for (int i = 0; i < word.length(); i++) {
                if (byteAt(begin + i) != word.charAt(i)) {
                    return false;
                }
            }
            return true;
        }

        private boolean isNumber(int least, int most) {
            return type == NUMBER && isIn(value, least, most);
        }

        private int byteAt(int place) {
            return place >= 0 && place < size ? bytes[place] : -1;
        }

        private static boolean isLetter(int v) {
            return v >= 'a' && v <= 'z';
        }

        private static boolean isDigit(int v) {
            return v >= '0' && v <= '9';
        }
    }

    /** A row of numbers of so many bits; of 0 bits it is missing. */
    private static final class Sheet {
        int bits = 0;
        int size = 0;
        final int[] numbers = new int[SHEET_NUMBERS];

        boolean isMissing() {
            return bits == 0;
        }

        void remake(int newBits, int n) {
            bits = newBits;
            size = newBits == 0 ? 0 : n;
            Arrays.fill(numbers, 0);
        }

        void set(int i, int v) {
            switch (bits) {
                case 8:
                    numbers[i] = (byte) v;
                    break;
                case 16:
                    numbers[i] = (short) v;
                    break;
                default:
                    numbers[i] = v;
                    break;
            }
        }

        /** Whether it has n numbers from one on; asked so that no sum can overflow. */
        boolean hasRange(int from, int n) {
            return n >= 0 && from >= 0 && n <= size && from <= size - n;
        }
    }
}
