import java.util.Arrays;

/**
 * A stair of basins on a hill and the boats that climb it, some of which carry
 * water up with them and pour it ahead. Refusals are answers below zero and
 * change nothing; no call throws.
 */
public final class WaterShoulders {
    public static final int NONE = -1, UNKNOWN = -101, OUTSIDE = -102, STATE = -103, FULL = -104;

    private static final int MOST_BASINS = 4;
    private static final int MOST_HELD = 5;
    private static final int MOST_BOATS = 5;
    private static final int MOST_FEWEST = 40;

    private final Page page = new Page();
    private final Stair hill = new Stair();
    private final int[] water = new int[MOST_BASINS];
    private final int[] waterThen = new int[MOST_BASINS];
    private final Boat[] boats = new Boat[MOST_BOATS];
    private final Mud marks = new Mud();
    private final Image kept = new Image();
    private final Odds odds = new Odds();
    private final Search search = new Search();
    private int boatsThere;
    private int daysGone;
    private int stairsRead;
    private int fewestDone;

    public WaterShoulders() {
    }

    // ---- the stair

    public int letters(long w) {
        int told = Page.lettersIn(w);
        if (told < 0) {
            return OUTSIDE;
        }
        if (page.size + told > Page.MOST) {
            return FULL;
        }
        page.append(w, told);
        return page.size;
    }

    public int blank() {
        int had = page.size;
        page.size = 0;
        return had;
    }

    public int fault() {
        return page.firstFault();
    }

    public int stair() {
        if (!page.isStair()) {
            return STATE;
        }
        hill.read(page);
        hill.empty(water);
        page.size = 0;
        boatsThere = 0;
        daysGone = 0;
        marks.wipe();
        stairsRead++;
        return hill.basins;
    }

    public int basin(int basin, int what) {
        if (!hill.has(basin)) {
            return UNKNOWN;
        }
        switch (what) {
            case 0:
                return hill.holds[basin];
            case 1:
                return hill.leaks[basin];
            case 2:
                return water[basin];
            default:
                return OUTSIDE;
        }
    }

    // ---- boats

    public int boat(int kind, int draught, int can) {
        if (kind < 0 || kind > 4 || draught < 0 || draught > 5 || !isCan(kind, can)) {
            return OUTSIDE;
        }
        if (hill.basins == 0) {
            return STATE;
        }
        if (boatsThere >= MOST_BOATS) {
            return FULL;
        }
        boats[boatsThere] = newBoat(kind, draught, can);
        boatsThere++;
        return boatsThere - 1;
    }

    public int about(int boat, int what) {
        Boat one = boatOf(boat);
        if (one == null) {
            return UNKNOWN;
        }
        switch (what) {
            case 0:
                return one.kind();
            case 1:
                return one.draught;
            case 2:
                return one.can;
            case 3:
                return one.needs();
            case 4:
                return one.carries();
            case 5:
                return one.place;
            case 6:
                return one.load;
            case 7:
                return hill.floats(water, one.place, one.needs()) ? 1 : 0;
            default:
                return OUTSIDE;
        }
    }

    public int as(int boat, int kind) {
        Boat one = boatOf(boat);
        if (one == null) {
            return UNKNOWN;
        }
        switch (kind) {
            case 0:
                return boat;
            case 1:
                return one instanceof Punt ? boat : NONE;
            case 2:
                return one instanceof Barge ? boat : NONE;
            case 3:
                return one instanceof Carrier ? boat : NONE;
            case 4:
                return one instanceof Tub ? boat : NONE;
            default:
                return OUTSIDE;
        }
    }

    public int rise(int boat) {
        Boat one = boatOf(boat);
        if (one == null) {
            return UNKNOWN;
        }
        if (!hill.letsRise(water, one.place, one.needs())) {
            return STATE;
        }
        one.place++;
        return one.place;
    }

    public int take(int boat, int buckets) {
        Boat one = boatOf(boat);
        if (one == null) {
            return UNKNOWN;
        }
        if (buckets < 1 || buckets > 6) {
            return OUTSIDE;
        }
        if (!hill.floats(water, one.place, buckets) || one.load + buckets > one.carries()) {
            return STATE;
        }
        hill.draw(water, one.place, buckets);
        one.load += buckets;
        return one.load;
    }

    public int pour(int boat, int way) {
        Boat one = boatOf(boat);
        if (one == null) {
            return UNKNOWN;
        }
        if (way < 0 || way > 1) {
            return OUTSIDE;
        }
        if (one.load < 1 || !hill.has(one.place + way)) {
            return STATE;
        }
        int gone = hill.fill(water, one.place + way, one.load);
        one.load = 0;
        return gone;
    }

    public int down(int boat) {
        Boat one = boatOf(boat);
        if (one == null) {
            return UNKNOWN;
        }
        if (one.load > 0 || one.place == 0) {
            return STATE;
        }
        int was = one.place;
        one.place = 0;
        return was;
    }

    public int day(int rain) {
        if (rain < 0 || rain > 9) {
            return OUTSIDE;
        }
        if (hill.basins == 0) {
            return STATE;
        }
        hill.passDay(water, rain);
        daysGone++;
        return hill.inAll(water);
    }

    // ---- what would be

    public int fewest(int boat, int carrier, int what) {
        Boat one = boatOf(boat);
        Boat other = boatOf(carrier);
        if (one == null || other == null || boat == carrier) {
            return UNKNOWN;
        }
        if (what < 0 || what > 1) {
            return OUTSIDE;
        }
        if (!(other instanceof Carrier) || fewestDone >= MOST_FEWEST) {
            return STATE;
        }
        fewestDone++;
        search.find(hill, water, one, other);
        return what == 0 ? search.acts : search.first;
    }

    public int lacks(int boat) {
        Boat one = boatOf(boat);
        if (one == null) {
            return UNKNOWN;
        }
        int next = one.place + 1;
        if (!hill.has(next) || hill.holds[next] < one.needs()) {
            return NONE;
        }
        return Math.max(0, one.needs() - water[next]);
    }

    public int lasts(int basin) {
        if (!hill.has(basin)) {
            return UNKNOWN;
        }
        int had = water[basin];
        int lost = basin == 0 ? 0 : hill.leaks[basin];
        if (had == 0) {
            return 0;
        }
        return lost > 0 ? (had + lost - 1) / lost : NONE;
    }

    public int lined(int days) {
        if (days < 1 || days > 9) {
            return OUTSIDE;
        }
        if (hill.basins == 0) {
            return STATE;
        }
        int best = 1;
        for (int basin = 2; basin < hill.basins; basin++) {
            if (savedBy(basin, days) > savedBy(best, days)) {
                best = basin;
            }
        }
        return best;
    }

    public long chance(int basin, int days, int tenths, int need, int part) {
        if (basin == 0 || !hill.has(basin)) {
            return UNKNOWN;
        }
        if (days < 1 || days > 9 || tenths < 0 || tenths > 10) {
            return OUTSIDE;
        }
        if (need < 0 || need > 5 || part < 0 || part > 1) {
            return OUTSIDE;
        }
        odds.begin(water[basin]);
        for (int i = 0; i < days; i++) {
            odds.passDay(hill, basin, tenths);
        }
        long good = odds.atLeast(need);
        long all = odds.atLeast(0);
        long common = Math.max(1L, Odds.commonPart(good, all));
        return (part == 0 ? good : all) / common;
    }

    // ---- mud lines

    public int mud(int basin, int buckets) {
        if (basin == 0 || !hill.has(basin)) {
            return UNKNOWN;
        }
        if (buckets < 0 || buckets > hill.holds[basin]) {
            return OUTSIDE;
        }
        marks.start(basin, buckets);
        return hill.holds[basin];
    }

    public int line(int buckets) {
        if (!marks.isThere()) {
            return STATE;
        }
        if (buckets < 0 || buckets > 5) {
            return OUTSIDE;
        }
        if (marks.size >= Mud.MOST_LINES) {
            return FULL;
        }
        marks.lines[marks.size] = buckets;
        marks.size++;
        return marks.size;
    }

    public int poured() {
        if (!marks.isThere()) {
            return STATE;
        }
        followMarks(0);
        return marks.allWays();
    }

    public int sure(int boat) {
        Boat one = boatOf(boat);
        if (one == null) {
            return UNKNOWN;
        }
        if (!marks.isThere() || !(one instanceof Carrier)) {
            return STATE;
        }
        followMarks(1 << boat);
        return marks.onlyDay();
    }

    public int weeks(int days, int seed, int what) {
        if (days < 1 || days > 60 || seed < 0 || what < 0 || what > 2) {
            return OUTSIDE;
        }
        if (hill.basins == 0) {
            return STATE;
        }
        System.arraycopy(water, 0, waterThen, 0, MOST_BASINS);
        int seedThen = seed;
        for (int i = 0; i < days; i++) {
            seedThen = nextSeed(seedThen);
            hill.passDay(waterThen, seedThen / 65536 % 4);
        }
        if (what == 0) {
            return hill.inAll(waterThen);
        }
        return what == 1 ? afloat(waterThen) : seedThen;
    }

    // ---- what is told of all

    public int image() {
        if (hill.basins == 0) {
            return STATE;
        }
        kept.stairsRead = stairsRead;
        kept.boatsThere = boatsThere;
        kept.daysGone = daysGone;
        System.arraycopy(water, 0, kept.water, 0, MOST_BASINS);
        kept.marks.copy(marks);
        for (int i = 0; i < boatsThere; i++) {
            kept.keepBoat(i, boats[i]);
        }
        return boatsThere;
    }

    public int restore() {
        // a kept image has the number of its stair, from 1: 0 is "none was kept"
        if (kept.stairsRead == 0 || kept.stairsRead != stairsRead) {
            return STATE;
        }
        boatsThere = kept.boatsThere;
        daysGone = kept.daysGone;
        System.arraycopy(kept.water, 0, water, 0, MOST_BASINS);
        marks.copy(kept.marks);
        for (int i = 0; i < boatsThere; i++) {
            kept.putBack(i, boats[i]);
        }
        return boatsThere;
    }

    public int count(int what) {
        switch (what) {
            case 0:
                return hill.basins;
            case 1:
                return boatsThere;
            case 2:
                return hill.inAll(water);
            case 3:
                return daysGone;
            case 4:
                return marks.size;
            case 5:
                return page.size;
            case 6:
                return stairsRead;
            case 7:
                return fewestDone;
            default:
                return OUTSIDE;
        }
    }

    public long digest() {
        long h = digestOfStair(653);
        h = digestOfBoats(h);
        if (hill.basins > 0) {
            h = 31 * h + lined(3);
        }
        for (int i = 0; i < marks.size; i++) {
            h = 31 * h + marks.lines[i];
        }
        if (marks.isThere()) {
            h = 31 * h + poured();
        }
        for (int i = 0; i < page.size; i++) {
            h = 31 * h + page.codes[i];
        }
        for (int what = 0; what <= 7; what++) {
            h = 31 * h + count(what);
        }
        return h;
    }

    private long digestOfStair(long begun) {
        long h = begun;
        for (int i = 0; i < hill.basins; i++) {
            for (int what = 0; what <= 2; what++) {
                h = 31 * h + basin(i, what);
            }
            h = 31 * h + lasts(i);
        }
        return h;
    }

    private long digestOfBoats(long begun) {
        long h = begun;
        for (int i = 0; i < boatsThere; i++) {
            for (int what = 0; what <= 7; what++) {
                h = 31 * h + about(i, what);
            }
            h = 31 * h + lacks(i);
        }
        return h;
    }

    private static boolean isCan(int kind, int can) {
        return kind >= 3 ? can >= 1 && can <= 3 : can == 0;
    }

    private static Boat newBoat(int kind, int draught, int can) {
        switch (kind) {
            case 1:
                return new Punt(draught, can);
            case 2:
                return new Barge(draught, can);
            case 3:
                return new Carrier(draught, can);
            case 4:
                return new Tub(draught, can);
            default:
                return new Boat(draught, can);
        }
    }

    /** The boat of that number, null if there is none. */
    private Boat boatOf(int number) {
        return number >= 0 && number < boatsThere ? boats[number] : null;
    }

    /** How much less is gone from a basin in so many dry days, if it is lined. */
    private int savedBy(int basin, int days) {
        return Math.min(water[basin], days * hill.leaks[basin]);
    }

    private void followMarks(int marked) {
        for (int i = 0; i < MOST_BOATS; i++) {
            Boat one = boatOf(i);
            marks.carried[i] = one instanceof Carrier ? one.carries() : 0;
        }
        marks.follow(hill, marked);
    }

    private static int nextSeed(int seed) {
        return (int) ((1103515245L * seed + 12345L) & 0x7fffffffL);
    }

    private int afloat(int[] row) {
        int n = 0;
        for (int i = 0; i < boatsThere; i++) {
            Boat one = boats[i];
            if (one != null && hill.floats(row, one.place, one.needs())) {
                n++;
            }
        }
        return n;
    }

    /** The letters that are to be read as a stair. */
    private static final class Page {
        static final int MOST = 14;

        /** Four basins of two digits each and three strokes between. */
        private static final int LONGEST_STAIR = 11;
        private static final int SHORTEST_STAIR = 5;

        final int[] codes = new int[MOST];
        int size;

        Page() {
        }

        /** How many letters the bytes of w tell; OUTSIDE if they are not as told. */
        static int lettersIn(long w) {
            int told = 0;
            for (int i = 0; i < 8; i++) {
                int code = byteOf(w, i);
                if (code > 126 || code != 0 && told < i) {
                    return OUTSIDE;
                }
                if (code != 0) {
                    told++;
                }
            }
            return told;
        }

        private static int byteOf(long w, int i) {
            return (int) (w >>> 8 * i) & 255;
        }

        void append(long w, int told) {
            for (int i = 0; i < told && size < MOST; i++) {
                codes[size] = byteOf(w, i);
                size++;
            }
        }

        int firstFault() {
            for (int i = 0; i < size; i++) {
                if (!fits(i, codes[i])) {
                    return i;
                }
            }
            return size;
        }

        private static boolean fits(int place, int code) {
            if (place >= LONGEST_STAIR) {
                return false;
            }
            switch (place % 3) {
                case 0:
                    return code >= '1' && code <= '5';
                case 1:
                    return code >= '0' && code <= '5';
                default:
                    return code == '/';
            }
        }

        boolean isStair() {
            return size >= SHORTEST_STAIR && size % 3 == 2 && firstFault() == size;
        }
    }

    /**
     * What the basins hold and leak. The water itself stands in rows that are
     * handed in, so that what would be goes by the same rules as what is.
     */
    private static final class Stair {
        final int[] holds = new int[MOST_BASINS];
        final int[] leaks = new int[MOST_BASINS];

        /** 0 as long as there is no stair. */
        int basins;

        Stair() {
        }

        void read(Page page) {
            basins = Math.min((page.size + 1) / 3, MOST_BASINS);
            for (int i = 0; i < basins; i++) {
                holds[i] = page.codes[3 * i] - '0';
                leaks[i] = page.codes[3 * i + 1] - '0';
            }
        }

        boolean has(int basin) {
            return basin >= 0 && basin < basins;
        }

        int top() {
            return basins - 1;
        }

        void empty(int[] row) {
            Arrays.fill(row, 0);
            row[0] = holds[0];
        }

        /** Whether a basin has so many buckets or more. */
        boolean floats(int[] row, int basin, int needs) {
            return has(basin) && row[basin] >= needs;
        }

        /** Whether all basins from one to the top hold so many: else no water helps. */
        boolean couldFloat(int basin, int needs) {
            for (int i = Math.max(0, basin); i < basins; i++) {
                if (holds[i] < needs) {
                    return false;
                }
            }
            return true;
        }

        boolean letsRise(int[] row, int basin, int needs) {
            return floats(row, basin, needs) && floats(row, basin + 1, needs);
        }

        /** Takes buckets out of a basin; the river gives without growing less. */
        void draw(int[] row, int basin, int buckets) {
            if (basin > 0 && has(basin)) {
                row[basin] -= buckets;
            }
        }

        /** Pours buckets into a basin: how many are gone, for basin 0 is always full. */
        int fill(int[] row, int basin, int buckets) {
            int over = buckets;
            for (int i = Math.min(basin, top()); i >= 0 && over > 0; i--) {
                int stays = Math.min(over, holds[i] - row[i]);
                row[i] += stays;
                over -= stays;
            }
            return over;
        }

        void passDay(int[] row, int rain) {
            fill(row, top(), rain);
            for (int i = 1; i < basins; i++) {
                row[i] = leaked(i, row[i]);
            }
        }

        /** What a basin has of so many buckets once it has leaked; it must be one of these. */
        int leaked(int basin, int buckets) {
            return has(basin) ? Math.max(0, buckets - leaks[basin]) : 0;
        }

        int capped(int basin, int buckets) {
            return has(basin) ? Math.min(buckets, holds[basin]) : 0;
        }

        int inAll(int[] row) {
            int sum = 0;
            for (int i = 1; i < basins; i++) {
                sum += row[i];
            }
            return sum;
        }
    }

    /** A boat of kind 0; the other kinds differ in what they need and carry. */
    private static class Boat {
        final int draught;
        final int can;
        int place;
        int load;

        Boat(int draught, int can) {
            this.draught = draught;
            this.can = can;
        }

        int kind() {
            return 0;
        }

        int needs() {
            return draught;
        }

        int carries() {
            return can;
        }
    }

    private static final class Punt extends Boat {
        Punt(int draught, int can) {
            super(draught, can);
        }

        int kind() {
            return 1;
        }

        int needs() {
            return (draught + 1) / 2;
        }
    }

    private static final class Barge extends Boat {
        Barge(int draught, int can) {
            super(draught, can);
        }

        int kind() {
            return 2;
        }

        int needs() {
            return draught + 1;
        }
    }

    private static class Carrier extends Boat {
        Carrier(int draught, int can) {
            super(draught, can);
        }

        int kind() {
            return 3;
        }
    }

    private static final class Tub extends Carrier {
        Tub(int draught, int can) {
            super(draught, can);
        }

        int kind() {
            return 4;
        }

        int carries() {
            return 2 * can;
        }
    }

    /**
     * The fewest acts by which a boat comes to the top. Layer by layer, with the
     * acts tried from the least on: so the states of a layer stand in the queue
     * in the order of the least first act that leads to them, and the first row
     * that is found to end at the top has the least first act of all.
     */
    private static final class Search {
        private static final int BOAT_RISES = 0;
        private static final int CARRIER_RISES = 1;
        private static final int CARRIER_DOWN = 2;
        private static final int POURS_HERE = 3;
        private static final int POURS_AHEAD = 4;
        private static final int TAKES = 10;

        /** The first act of the state from which the search begins. */
        private static final int NO_ACT = 31;

        /** A state: the water of basins 1 to 3, load, carrier's and boat's place. */
        private static final int LOAD_AT = 9;
        private static final int CARRIER_AT = 12;
        private static final int BOAT_AT = 14;
        private static final int STATE_BITS = 16;
        private static final int STATE_MASK = (1 << STATE_BITS) - 1;

        /** Boat below the top, carrier anywhere, loads to 6, three basins to 5. */
        private static final int MOST_STATES = 3 * 4 * 7 * 6 * 6 * 6;

        int acts;
        int first;

        private final int[] row = new int[MOST_BASINS];
        private final int[] rowThen = new int[MOST_BASINS];
        private int[] queue = new int[0];
        private long[] seen = new long[0];
        private int tail;
        private int begun;
        private int carrierPlace;
        private int boatPlace;
        private int load;
        private int boatNeeds;
        private int carrierNeeds;
        private int carrierCarries;

        Search() {
        }

        void find(Stair hill, int[] water, Boat boat, Boat carrier) {
            acts = boat.place == hill.top() ? 0 : NONE;
            first = NONE;
            if (acts == 0 || !hill.couldFloat(boat.place, boat.needs())) {
                return;
            }
            begin(hill, water, boat, carrier);
            int layer = 0;
            int layerEnd = tail;
            for (int head = 0; head < tail && head < MOST_STATES; head++) {
                if (head == layerEnd) {
                    layer++;
                    layerEnd = tail;
                }
                unpack(hill, queue[head]);
                if (tryBoat(hill)) {
                    acts = layer + 1;
                    return;
                }
                tryCarrierMoves(hill);
                tryPours(hill);
                tryTakes(hill);
            }
        }

        private void begin(Stair hill, int[] water, Boat boat, Boat carrier) {
            makeRows();
            boatNeeds = boat.needs();
            carrierNeeds = carrier.needs();
            carrierCarries = carrier.carries();
            tail = 0;
            begun = NO_ACT;
            reach(water, carrier.load, carrier.place, boat.place, NO_ACT);
        }

        /** Many objects never search: the long rows are made with the first search alone. */
        private void makeRows() {
            if (queue.length == 0) {
                queue = new int[MOST_STATES];
                seen = new long[1 << (STATE_BITS - 6)];
            }
            Arrays.fill(seen, 0L);
        }

        private void unpack(Stair hill, int entry) {
            begun = entry >>> STATE_BITS;
            row[0] = hill.holds[0];
            row[1] = entry & 7;
            row[2] = entry >>> 3 & 7;
            row[3] = entry >>> 6 & 7;
            load = entry >>> LOAD_AT & 7;
            carrierPlace = entry >>> CARRIER_AT & 3;
            boatPlace = entry >>> BOAT_AT & 3;
        }

        /** A state behind an act; it is queued unless it was reached before. */
        private void reach(int[] rowIn, int loadIn, int carrierIn, int boatIn, int act) {
            int state = rowIn[1] | rowIn[2] << 3 | rowIn[3] << 6
                    | loadIn << LOAD_AT | carrierIn << CARRIER_AT | boatIn << BOAT_AT;
            state &= STATE_MASK;
            int word = state >>> 6;
            long bit = 1L << (state & 63);
            if (word >= seen.length || (seen[word] & bit) != 0 || tail >= queue.length) {
                return;
            }
            seen[word] |= bit;
            queue[tail] = state | firstAct(act) << STATE_BITS;
            tail++;
        }

        private int firstAct(int act) {
            return begun == NO_ACT ? act : begun;
        }

        /** Whether the boat comes to the top by rising now. */
        private boolean tryBoat(Stair hill) {
            if (!hill.letsRise(row, boatPlace, boatNeeds)) {
                return false;
            }
            if (boatPlace + 1 == hill.top()) {
                first = firstAct(BOAT_RISES);
                return true;
            }
            reach(row, load, carrierPlace, boatPlace + 1, BOAT_RISES);
            return false;
        }

        private void tryCarrierMoves(Stair hill) {
            if (hill.letsRise(row, carrierPlace, carrierNeeds)) {
                reach(row, load, carrierPlace + 1, boatPlace, CARRIER_RISES);
            }
            if (load == 0 && carrierPlace > 0) {
                reach(row, 0, 0, boatPlace, CARRIER_DOWN);
            }
        }

        private void tryPours(Stair hill) {
            if (load > 0) {
                pourInto(hill, carrierPlace, POURS_HERE);
                if (hill.has(carrierPlace + 1)) {
                    pourInto(hill, carrierPlace + 1, POURS_AHEAD);
                }
            }
        }

        private void pourInto(Stair hill, int basin, int act) {
            System.arraycopy(row, 0, rowThen, 0, MOST_BASINS);
            hill.fill(rowThen, basin, load);
            reach(rowThen, 0, carrierPlace, boatPlace, act);
        }

        private void tryTakes(Stair hill) {
            int most = Math.min(row[carrierPlace], carrierCarries - load);
            System.arraycopy(row, 0, rowThen, 0, MOST_BASINS);
            for (int k = 1; k <= most; k++) {
                hill.draw(rowThen, carrierPlace, 1);
                reach(rowThen, load + k, carrierPlace, boatPlace, TAKES + k);
            }
        }
    }

    /** How likely a basin has so many buckets, as weights that sum up to a power of ten. */
    private static final class Odds {
        private final long[] weights = new long[MOST_HELD + 1];
        private final long[] weightsThen = new long[MOST_HELD + 1];

        Odds() {
        }

        void begin(int buckets) {
            Arrays.fill(weights, 0L);
            if (buckets >= 0 && buckets <= MOST_HELD) {
                weights[buckets] = 1;
            }
        }

        void passDay(Stair hill, int basin, int tenths) {
            Arrays.fill(weightsThen, 0L);
            for (int i = 0; i <= MOST_HELD; i++) {
                int wet = hill.leaked(basin, hill.capped(basin, i + 1));
                int dry = hill.leaked(basin, hill.capped(basin, i));
                weightsThen[wet] += weights[i] * tenths;
                weightsThen[dry] += weights[i] * (10 - tenths);
            }
            System.arraycopy(weightsThen, 0, weights, 0, MOST_HELD + 1);
        }

        long atLeast(int need) {
            long sum = 0;
            for (int i = Math.max(0, need); i <= MOST_HELD; i++) {
                sum += weights[i];
            }
            return sum;
        }

        /** The greatest number that divides both; numbers to 10^9 need far fewer steps. */
        static long commonPart(long a, long b) {
            long high = a;
            long low = b;
            for (int i = 0; i < 100 && low != 0; i++) {
                long rest = high % low;
                high = low;
                low = rest;
            }
            return high;
        }
    }

    /** Mud lines of a basin, and who could have poured when so that they hold. */
    private static final class Mud {
        static final int MOST_LINES = 7;
        private static final int CREWS = 1 << MOST_BOATS;

        final int[] lines = new int[MOST_LINES];
        int size;

        /** What each boat pours at once; 0 of one that is no carrier. */
        final int[] carried = new int[MOST_BOATS];

        /** 0 as long as there is no mud. */
        private int basin;
        private int from;

        /** By crew, a set of boats as bits: what they pour together. */
        private final int[] together = new int[CREWS];

        /** By crew: in how many ways just these have poured up to a day. */
        private final int[] ways = new int[CREWS];

        /** By crew: the days, as bits, on which the marked boat poured in these ways; bit 0: none. */
        private final int[] markedDays = new int[CREWS];

        private int carriers;

        Mud() {
        }

        boolean isThere() {
            return basin > 0;
        }

        void wipe() {
            basin = 0;
            from = 0;
            size = 0;
        }

        void start(int basinIn, int buckets) {
            basin = basinIn;
            from = buckets;
            size = 0;
        }

        void copy(Mud other) {
            basin = other.basin;
            from = other.from;
            size = other.size;
            System.arraycopy(other.lines, 0, lines, 0, MOST_LINES);
        }

        void follow(Stair hill, int marked) {
            addUp();
            Arrays.fill(ways, 0);
            Arrays.fill(markedDays, 0);
            ways[0] = 1;
            markedDays[0] = 1;
            int had = from;
            for (int i = 0; i < size && i < MOST_LINES; i++) {
                passDay(fittingCrews(hill, had, lines[i]), marked, 1 << (i + 1));
                had = lines[i];
            }
        }

        private void addUp() {
            carriers = 0;
            for (int i = 0; i < MOST_BOATS; i++) {
                int bit = 1 << i;
                if (carried[i] > 0) {
                    carriers |= bit;
                }
                for (int crew = 0; crew < bit; crew++) {
                    together[bit + crew] = together[crew] + carried[i];
                }
            }
        }

        /** As bits: the crews that can have poured on a day with that line. */
        private int fittingCrews(Stair hill, int had, int line) {
            int fitting = 0;
            for (int crew = 0; crew < CREWS; crew++) {
                int full = hill.capped(basin, had + together[crew]);
                if (hill.leaked(basin, full) == line) {
                    fitting |= 1 << crew;
                }
            }
            return fitting;
        }

        /**
         * From the greatest crew down, for each looks only at its own parts: so
         * what stands in the rows for these is still that of the day before.
         */
        private void passDay(int fitting, int marked, int dayBit) {
            for (int crew = CREWS - 1; crew >= 0; crew--) {
                if ((crew & ~carriers) == 0) {
                    passDayOf(crew, fitting, marked, dayBit);
                }
            }
        }

        private void passDayOf(int crew, int fitting, int marked, int dayBit) {
            boolean idleFits = (fitting & 1) != 0;
            int sum = idleFits ? ways[crew] : 0;
            int days = idleFits ? markedDays[crew] : 0;
            for (int part = crew; part > 0; part = (part - 1) & crew) {
                int rest = crew - part;
                if ((fitting >>> part & 1) != 0 && ways[rest] > 0) {
                    sum += ways[rest];
                    days |= (part & marked) != 0 ? dayBit : markedDays[rest];
                }
            }
            ways[crew] = sum;
            markedDays[crew] = days;
        }

        int allWays() {
            int sum = 0;
            for (int crew = 0; crew < CREWS; crew++) {
                sum += ways[crew];
            }
            return sum;
        }

        /** The one day on which the marked boat poured in all ways; NONE if there is no such one. */
        int onlyDay() {
            int days = 0;
            for (int crew = 0; crew < CREWS; crew++) {
                days |= markedDays[crew];
            }
            for (int i = 0; i <= MOST_LINES; i++) {
                if (days == 1 << i) {
                    return i;
                }
            }
            return NONE;
        }
    }

    /** What image() keeps; boats themselves never change but for place and load. */
    private static final class Image {
        final int[] water = new int[MOST_BASINS];
        final Mud marks = new Mud();
        int stairsRead;
        int boatsThere;
        int daysGone;
        private final int[] places = new int[MOST_BOATS];
        private final int[] loads = new int[MOST_BOATS];

        Image() {
        }

        void keepBoat(int number, Boat boat) {
            if (boat != null && number >= 0 && number < MOST_BOATS) {
                places[number] = boat.place;
                loads[number] = boat.load;
            }
        }

        void putBack(int number, Boat boat) {
            if (boat != null && number >= 0 && number < MOST_BOATS) {
                boat.place = places[number];
                boat.load = loads[number];
            }
        }
    }
}
