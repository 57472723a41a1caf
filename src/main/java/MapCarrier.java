import java.util.Arrays;

/** A carrier without a map: goes errands by what is remembered of each fork. */
public final class MapCarrier {
    private static final int NONE = -1;
    private static final int MOST_PLACES = 10;
    private static final int MOST_EXITS = 4;
    private static final int MOST_ENDS = MOST_PLACES * MOST_EXITS;
    private static final int MOST_ROADS = MOST_ENDS / 2;
    private static final int MOST_MILES = 9;
    private static final int MOST_COINS = 99;
    private static final int MOST_STEPS = 100;
    private static final int MOST_NIGHTS = 9;
    private static final int NEW_STRENGTH = 3;
    private static final int MOST_STRENGTH = 9;
    // More than any way can have, and far from overflowing when miles are added.
    private static final int UNREACHED = 1000000;
    // An errand takes each road once and doubles it once at the most: this is far above.
    private static final int ENOUGH_STEPS = 1000;

    private final Land land = new Land();
    private final Carrier carrier = new Carrier(land);
    // Goes the errands that only would be; the one above is never touched by them.
    private final Carrier trial = new Carrier(land);

    public MapCarrier() {
    }

    // ---- the land

    public int addPlace() throws IllegalStateException {
        if (land.places >= MOST_PLACES) {
            throw new IllegalStateException("there are 10 places");
        }
        land.places++;
        return land.places - 1;
    }

    public int addRoad(int a, int b, int miles)
            throws IndexOutOfBoundsException, IllegalArgumentException, IllegalStateException {
        checkPlace(a);
        checkPlace(b);
        if (a == b) {
            throw new IllegalArgumentException("a road leads to another place");
        }
        checkRange(miles, MOST_MILES);
        if (!land.hasRoom(a) || !land.hasRoom(b)) {
            throw new IllegalStateException("a place has 4 exits");
        }
        return land.join(a, b, miles);
    }

    public boolean turnRoad(int place, int exit) throws IndexOutOfBoundsException {
        return land.turnEnd(checkedEnd(place, exit));
    }

    public boolean turnShepherd(int place) throws IndexOutOfBoundsException {
        checkPlace(place);
        land.shepherds[place] = !land.shepherds[place];
        return land.shepherds[place];
    }

    // ---- the carrier

    public int pay(int coins) throws IllegalArgumentException {
        checkRange(coins, MOST_COINS);
        carrier.coins = Math.min(MOST_COINS, carrier.coins + coins);
        return carrier.coins;
    }

    public int beginErrand(int goal) throws IndexOutOfBoundsException, IllegalStateException {
        checkPlace(goal);
        checkIdle();
        int miles = land.shortest(carrier.at, goal);
        carrier.begin(goal);
        return miles;
    }

    public int goOn(int steps) throws IllegalArgumentException, IllegalStateException {
        checkRange(steps, MOST_STEPS);
        checkUnderway();
        int made = 0;
        while (made < steps && carrier.isUnderway() && carrier.step()) {
            made++;
        }
        return made;
    }

    public int giveUp() throws IllegalStateException {
        checkUnderway();
        int exits = carrier.wayLength;
        carrier.endErrand();
        return exits;
    }

    public int sleep(int nights) throws IllegalArgumentException {
        checkRange(nights, MOST_NIGHTS);
        return carrier.memory.fade(nights);
    }

    // ---- the land: what there is

    public int places() {
        return land.places;
    }

    public int exitsOf(int place) throws IndexOutOfBoundsException {
        checkPlace(place);
        return land.exits[place];
    }

    public int leadsTo(int place, int exit) throws IndexOutOfBoundsException {
        return land.beyond(checkedEnd(place, exit));
    }

    public int milesOf(int place, int exit) throws IndexOutOfBoundsException {
        return land.milesAt(checkedEnd(place, exit));
    }

    public boolean isOpen(int place, int exit) throws IndexOutOfBoundsException {
        return land.opensAt(checkedEnd(place, exit));
    }

    public boolean hasShepherd(int place) throws IndexOutOfBoundsException {
        checkPlace(place);
        return land.shepherds[place];
    }

    public int distance(int a, int b) throws IndexOutOfBoundsException {
        checkPlace(a);
        checkPlace(b);
        return land.shortest(a, b);
    }

    // ---- the carrier: what there is

    public int whereIs() {
        return land.places == 0 ? NONE : carrier.at;
    }

    public int coins() {
        return carrier.coins;
    }

    public int goal() {
        return carrier.goal;
    }

    public int wayLength() {
        return carrier.wayLength;
    }

    public boolean isTried(int place, int exit) throws IndexOutOfBoundsException {
        int end = checkedEnd(place, exit);
        return carrier.isUnderway() && carrier.hasTried(end);
    }

    public int remembered(int goal, int place) throws IndexOutOfBoundsException {
        checkPlace(goal);
        checkPlace(place);
        return carrier.memory.exitFor(goal, place);
    }

    public int strength(int goal, int place) throws IndexOutOfBoundsException {
        checkPlace(goal);
        checkPlace(place);
        return carrier.memory.strengthFor(goal, place);
    }

    public boolean knowsWay(int goal) throws IndexOutOfBoundsException {
        checkPlace(goal);
        return carrier.findsByMemory(goal);
    }

    public int milesWalked() {
        return carrier.walked;
    }

    public int milesDoubled() {
        return carrier.doubled;
    }

    public int errandsDone() {
        return carrier.done;
    }

    public int errandsInVain() {
        return carrier.inVain;
    }

    public int asked() {
        return carrier.questions;
    }

    // ---- what would be

    public int wouldWalk(int goal) throws IndexOutOfBoundsException, IllegalStateException {
        checkPlace(goal);
        checkIdle();
        return trialMiles(goal, NONE);
    }

    public int bestShepherd(int goal) throws IndexOutOfBoundsException, IllegalStateException {
        checkPlace(goal);
        checkIdle();
        int fewest = trialMiles(goal, NONE);
        int best = NONE;
        for (int place = 0; place < land.places; place++) {
            int miles = land.shepherds[place] ? NONE : trialMiles(goal, place);
            if (miles != NONE && (fewest == NONE || miles < fewest)) {
                fewest = miles;
                best = place;
            }
        }
        return best;
    }

    public double meanMiles() {
        int errands = carrier.done + carrier.inVain;
        return errands == 0 ? 0.0 : (double) carrier.walked / (double) errands;
    }

    public long digest() {
        long d = 1873;
        d = mix(d, places());
        d = mix(d, whereIs());
        d = mix(d, coins());
        d = mix(d, goal());
        d = mix(d, wayLength());
        d = mix(d, milesWalked());
        d = mix(d, milesDoubled());
        d = mix(d, errandsDone());
        d = mix(d, errandsInVain());
        d = mix(d, asked());
        return mixMemory(mixPlaces(d));
    }

    // ---- help for the above

    private void checkPlace(int place) {
        if (!land.isPlace(place)) {
            throw new IndexOutOfBoundsException("no such place");
        }
    }

    private int checkedEnd(int place, int exit) {
        int end = land.endAt(place, exit);
        if (end == NONE) {
            throw new IndexOutOfBoundsException("no such place or exit");
        }
        return end;
    }

    private void checkRange(int number, int most) {
        if (number < 1 || number > most) {
            throw new IllegalArgumentException("a number is too small or too large");
        }
    }

    private void checkIdle() {
        if (carrier.isUnderway()) {
            throw new IllegalStateException("an errand goes on");
        }
    }

    private void checkUnderway() {
        if (!carrier.isUnderway()) {
            throw new IllegalStateException("no errand goes on");
        }
    }

    /** The miles of an errand begun now, with one more shepherd at a place or NONE; NONE if in vain. */
    private int trialMiles(int goal, int guest) {
        trial.startLike(carrier, guest);
        trial.begin(goal);
        for (int i = 0; i < ENOUGH_STEPS && trial.isUnderway(); i++) {
            trial.step();
        }
        return trial.inVain > 0 ? NONE : trial.walked;
    }

    private static long mix(long d, long x) {
        return d * 31 + x;
    }

    private static long mixFlag(long d, boolean flag) {
        return mix(d, flag ? 1 : 0);
    }

    private long mixPlaces(long start) {
        long d = start;
        for (int place = 0; place < land.places; place++) {
            d = mixFlag(d, hasShepherd(place));
            d = mix(d, exitsOf(place));
            for (int exit = 0; exit < exitsOf(place); exit++) {
                d = mix(d, leadsTo(place, exit));
                d = mix(d, milesOf(place, exit));
                d = mixFlag(d, isOpen(place, exit));
                d = mixFlag(d, isTried(place, exit));
            }
        }
        return d;
    }

    private long mixMemory(long start) {
        long d = start;
        for (int goal = 0; goal < land.places; goal++) {
            for (int place = 0; place < land.places; place++) {
                d = mix(d, remembered(goal, place));
                d = mix(d, strength(goal, place));
            }
        }
        return d;
    }

    private static boolean isEnd(int end) {
        return end >= 0 && end < MOST_ENDS;
    }

    private static int placeOfEnd(int end) {
        return end / MOST_EXITS;
    }

    private static int exitOfEnd(int end) {
        return end % MOST_EXITS;
    }

    /** Places, shepherds, and roads by their two ends: exit e of place p is the end 4 * p + e. */
    private static final class Land {
        private int places;
        private final int[] exits = new int[MOST_PLACES];
        private final boolean[] shepherds = new boolean[MOST_PLACES];
        private final int[] leads = new int[MOST_ENDS];
        private final int[] twins = new int[MOST_ENDS];
        private final int[] lengths = new int[MOST_ENDS];
        // False as well where there is no road, so that a look at it alone tells whether one can go.
        private final boolean[] open = new boolean[MOST_ENDS];
        private final int[] far = new int[MOST_PLACES];

        boolean isPlace(int place) {
            return place >= 0 && place < places;
        }

        boolean hasRoom(int place) {
            return isPlace(place) && exits[place] < MOST_EXITS;
        }

        int endAt(int place, int exit) {
            boolean there = isPlace(place) && exit >= 0 && exit < exits[place];
            return there ? place * MOST_EXITS + exit : NONE;
        }

        /** Makes a road between two places that have room; returns its exit at the first. */
        int join(int a, int b, int miles) {
            if (!hasRoom(a) || !hasRoom(b)) {
                return NONE;
            }
            int exit = exits[a];
            int here = a * MOST_EXITS + exit;
            int there = b * MOST_EXITS + exits[b];
            exits[a]++;
            exits[b]++;
            layEnd(here, there, miles);
            layEnd(there, here, miles);
            return exit;
        }

        private void layEnd(int end, int twin, int miles) {
            leads[end] = placeOfEnd(twin);
            twins[end] = twin;
            lengths[end] = miles;
            open[end] = true;
        }

        boolean turnEnd(int end) {
            int twin = twinOf(end);
            if (!isEnd(end) || !isEnd(twin)) {
                return false;
            }
            boolean turned = !open[end];
            open[end] = turned;
            open[twin] = turned;
            return turned;
        }

        boolean opensAt(int end) {
            return isEnd(end) && open[end];
        }

        int milesAt(int end) {
            return isEnd(end) ? lengths[end] : 0;
        }

        int twinOf(int end) {
            return isEnd(end) ? twins[end] : NONE;
        }

        int beyond(int end) {
            return isEnd(end) ? leads[end] : NONE;
        }

        /** The miles of the shortest way by open roads; NONE if there is none. */
        int shortest(int from, int goal) {
            measure(goal);
            return isPlace(from) && far[from] < UNREACHED ? far[from] : NONE;
        }

        /** The end with which the shortest way begins, of several the first; NONE if there is no way. */
        int endTowards(int from, int goal) {
            measure(goal);
            if (!isPlace(from) || far[from] >= UNREACHED) {
                return NONE;
            }
            for (int exit = 0; exit < exits[from]; exit++) {
                int end = from * MOST_EXITS + exit;
                if (milesBy(end) == far[from]) {
                    return end;
                }
            }
            return NONE;
        }

        /** Fills the row of how far each place is from a goal. */
        private void measure(int goal) {
            Arrays.fill(far, UNREACHED);
            if (isPlace(goal)) {
                far[goal] = 0;
            }
            boolean shortened = true;
            for (int round = 0; round < MOST_PLACES && shortened; round++) {
                shortened = false;
                for (int end = 0; end < MOST_ENDS; end++) {
                    int miles = milesBy(end);
                    if (miles < far[placeOfEnd(end)]) {
                        far[placeOfEnd(end)] = miles;
                        shortened = true;
                    }
                }
            }
        }

        private int milesBy(int end) {
            if (end < 0 || end >= MOST_ENDS || !open[end]) {
                return UNREACHED;
            }
            int next = leads[end];
            return next >= 0 && next < MOST_PLACES ? lengths[end] + far[next] : UNREACHED;
        }
    }

    /** What is remembered: an exit for a goal and a place, where its strength is not 0. */
    private static final class Memory {
        private final int[] exits = new int[MOST_PLACES * MOST_PLACES];
        private final int[] strengths = new int[MOST_PLACES * MOST_PLACES];

        int exitFor(int goal, int place) {
            int spot = spotOf(goal, place);
            return spot != NONE && strengths[spot] > 0 ? exits[spot] : NONE;
        }

        int strengthFor(int goal, int place) {
            int spot = spotOf(goal, place);
            return spot != NONE ? strengths[spot] : 0;
        }

        /** Remembers an exit anew, whatever was remembered there. */
        void learn(int goal, int place, int exit) {
            int spot = spotOf(goal, place);
            if (spot != NONE) {
                exits[spot] = exit;
                strengths[spot] = NEW_STRENGTH;
            }
        }

        /** Remembers an exit of a way that led to the goal. */
        void confirm(int goal, int place, int exit) {
            int spot = spotOf(goal, place);
            if (spot != NONE && strengths[spot] > 0 && exits[spot] == exit) {
                strengths[spot] = Math.min(MOST_STRENGTH, strengths[spot] + NEW_STRENGTH);
            } else {
                learn(goal, place, exit);
            }
        }

        /** Lets nights go by; returns how many exits are forgotten. */
        int fade(int nights) {
            int forgotten = 0;
            for (int spot = 0; spot < strengths.length; spot++) {
                boolean known = strengths[spot] > 0;
                strengths[spot] = Math.max(0, strengths[spot] - nights);
                if (known && strengths[spot] == 0) {
                    forgotten++;
                }
            }
            return forgotten;
        }

        void copyFrom(Memory other) {
            System.arraycopy(other.exits, 0, exits, 0, exits.length);
            System.arraycopy(other.strengths, 0, strengths, 0, strengths.length);
        }

        private static int spotOf(int goal, int place) {
            boolean inside = goal >= 0 && goal < MOST_PLACES && place >= 0 && place < MOST_PLACES;
            return inside ? goal * MOST_PLACES + place : NONE;
        }
    }

    /** One who goes errands in a land; tried and way are those of the errand that goes on. */
    private static final class Carrier {
        private final Land land;
        private final Memory memory = new Memory();
        private int at;
        private int coins;
        private int goal = NONE;
        private final int[] way = new int[MOST_ROADS];
        private int wayLength;
        private final boolean[] tried = new boolean[MOST_ENDS];
        // By place, not by shepherd: one who goes and comes again in an errand has been asked still.
        private final boolean[] askedAt = new boolean[MOST_PLACES];
        // A place where there is a shepherd for this carrier alone.
        private int guest = NONE;
        private int walked;
        private int doubled;
        private int done;
        private int inVain;
        private int questions;

        Carrier(Land land) {
            this.land = land;
        }

        /** Takes over what another one's next errand depends on; counts miles and errands in vain from 0. */
        void startLike(Carrier other, int guestPlace) {
            at = other.at;
            coins = other.coins;
            memory.copyFrom(other.memory);
            guest = guestPlace;
            walked = 0;
            inVain = 0;
        }

        boolean isUnderway() {
            return goal != NONE;
        }

        boolean hasTried(int end) {
            return isEnd(end) && tried[end];
        }

        void begin(int newGoal) {
            forget(tried);
            forget(askedAt);
            wayLength = 0;
            goal = newGoal;
            if (at == goal) {
                done++;
                endErrand();
            }
        }

        void endErrand() {
            goal = NONE;
            wayLength = 0;
        }

        /** Makes a step; if none can be made, the errand is over, in vain, and false is returned. */
        boolean step() {
            int end = rememberedEnd();
            if (end == NONE) {
                end = askedEnd();
            }
            if (end == NONE) {
                end = firstUntried();
            }
            if (end != NONE) {
                take(end);
            } else if (wayLength > 0) {
                doubleBack();
            } else {
                inVain++;
                endErrand();
                return false;
            }
            if (at == goal) {
                rememberWay();
                done++;
                endErrand();
            }
            return true;
        }

        private boolean canTake(int end) {
            return isEnd(end) && land.open[end] && !tried[end];
        }

        private int rememberedEnd() {
            int end = land.endAt(at, memory.exitFor(goal, at));
            return canTake(end) ? end : NONE;
        }

        /** Asks the shepherd here, if there is one to ask; returns the told end if it can be taken. */
        private int askedEnd() {
            boolean met = land.isPlace(at) && (land.shepherds[at] || at == guest);
            if (!met || askedAt[at] || coins == 0) {
                return NONE;
            }
            coins--;
            questions++;
            askedAt[at] = true;
            int told = land.endTowards(at, goal);
            if (told != NONE) {
                memory.learn(goal, at, exitOfEnd(told));
            }
            return canTake(told) ? told : NONE;
        }

        private int firstUntried() {
            for (int exit = 0; exit < MOST_EXITS; exit++) {
                int end = at * MOST_EXITS + exit;
                if (canTake(end)) {
                    return end;
                }
            }
            return NONE;
        }

        private void take(int end) {
            int twin = land.twinOf(end);
            // The way has room: each road is taken once at the most, as both its ends are tried then.
            if (!isEnd(end) || !isEnd(twin) || wayLength >= MOST_ROADS) {
                return;
            }
            tried[end] = true;
            tried[twin] = true;
            way[wayLength] = end;
            wayLength++;
            walked += land.milesAt(end);
            at = placeOfEnd(twin);
        }

        private void doubleBack() {
            int last = wayLength - 1;
            if (last < 0 || last >= MOST_ROADS) {
                return;
            }
            wayLength = last;
            int end = way[last];
            int miles = land.milesAt(end);
            walked += miles;
            doubled += miles;
            at = placeOfEnd(end);
        }

        private void rememberWay() {
            for (int i = 0; i < wayLength && i < MOST_ROADS; i++) {
                memory.confirm(goal, placeOfEnd(way[i]), exitOfEnd(way[i]));
            }
        }

        /** Whether remembered exits of open roads lead from here to a goal, within 10 of them. */
        boolean findsByMemory(int newGoal) {
            int place = at;
            for (int i = 0; i < MOST_PLACES && place != newGoal; i++) {
                int end = land.endAt(place, memory.exitFor(newGoal, place));
                if (!land.opensAt(end)) {
                    return false;
                }
                place = land.beyond(end);
            }
            return place == newGoal;
        }

        private static void forget(boolean[] marks) {
            for (int i = 0; i < marks.length; i++) {
                marks[i] = false;
            }
        }
    }
}
