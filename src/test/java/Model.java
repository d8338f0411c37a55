import java.math.BigInteger;
import java.util.ArrayDeque;
import java.util.ArrayList;
import java.util.Arrays;
import java.util.HashMap;
import java.util.List;
import java.util.Map;
import java.util.regex.Pattern;

/**
 * The document once more, written from its words with no regard to cost: texts,
 * lists, maps and plain enumeration, so that it shares no trick with the class.
 */
final class Model {
    private static final int NONE = -1, UNKNOWN = -101, OUTSIDE = -102, STATE = -103, FULL = -104;
    private static final Pattern STAIR = Pattern.compile("[1-5][0-5](/[1-5][0-5]){1,3}");

    /** Texts that begin a stair, the whole ones too. */
    private static final Pattern BEGINS =
            Pattern.compile("([1-5][0-5]/){0,3}([1-5][0-5]?)?");

    private static final class Vessel {
        int kind;
        int draught;
        int can;
        int at;
        int load;

        Vessel copy() {
            Vessel v = new Vessel();
            v.kind = kind;
            v.draught = draught;
            v.can = can;
            v.at = at;
            v.load = load;
            return v;
        }

        int needs() {
            return kind == 1 ? (int) Math.ceil(draught / 2.0) : kind == 2 ? draught + 1 : draught;
        }

        int carries() {
            return kind == 4 ? can + can : can;
        }

        boolean carrier() {
            return kind == 3 || kind == 4;
        }
    }

    private static final class Kept {
        int stairs;
        int days;
        List<Integer> has;
        List<Vessel> boats = new ArrayList<>();
        int mudBasin;
        int mudFrom;
        List<Integer> lines;
    }

    private String page = "";
    private List<Integer> holds = new ArrayList<>();
    private List<Integer> leaks = new ArrayList<>();
    private List<Integer> has = new ArrayList<>();
    private List<Vessel> boats = new ArrayList<>();
    private int days;
    private int stairs;
    private int fewests;
    private int mudBasin = NONE;
    private int mudFrom;
    private List<Integer> lines = new ArrayList<>();
    private Kept kept;

    int letters(long w) {
        StringBuilder told = new StringBuilder();
        boolean ended = false;
        for (int i = 0; i < 8; i++) {
            int b = BigInteger.valueOf(w).shiftRight(8 * i).and(BigInteger.valueOf(255)).intValue();
            if (b > 126 || ended && b > 0) {
                return OUTSIDE;
            }
            ended |= b == 0;
            if (b > 0) {
                told.append((char) b);
            }
        }
        if (page.length() + told.length() > 14) {
            return FULL;
        }
        page += told;
        return page.length();
    }

    int blank() {
        int had = page.length();
        page = "";
        return had;
    }

    int fault() {
        for (int n = 1; n <= page.length(); n++) {
            if (!BEGINS.matcher(page.substring(0, n)).matches()) {
                return n - 1;
            }
        }
        return page.length();
    }

    int stair() {
        if (!STAIR.matcher(page).matches()) {
            return STATE;
        }
        holds = new ArrayList<>();
        leaks = new ArrayList<>();
        has = new ArrayList<>();
        for (String told : page.split("/")) {
            holds.add(told.charAt(0) - '0');
            leaks.add(told.charAt(1) - '0');
            has.add(0);
        }
        has.set(0, holds.get(0));
        boats = new ArrayList<>();
        days = 0;
        mudBasin = NONE;
        lines = new ArrayList<>();
        page = "";
        stairs++;
        return holds.size();
    }

    private boolean isBasin(int basin) {
        return basin >= 0 && basin < holds.size();
    }

    private boolean isBoat(int boat) {
        return boat >= 0 && boat < boats.size();
    }

    int basin(int basin, int what) {
        if (!isBasin(basin)) {
            return UNKNOWN;
        }
        if (what < 0 || what > 2) {
            return OUTSIDE;
        }
        return List.of(holds, leaks, has).get(what).get(basin);
    }

    int boat(int kind, int draught, int can) {
        boolean canFits = kind == 3 || kind == 4 ? can >= 1 && can <= 3 : can == 0;
        if (kind < 0 || kind > 4 || draught < 0 || draught > 5 || !canFits) {
            return OUTSIDE;
        }
        if (holds.isEmpty()) {
            return STATE;
        }
        if (boats.size() == 5) {
            return FULL;
        }
        Vessel v = new Vessel();
        v.kind = kind;
        v.draught = draught;
        v.can = can;
        boats.add(v);
        return boats.size() - 1;
    }

    int about(int boat, int what) {
        if (!isBoat(boat)) {
            return UNKNOWN;
        }
        if (what < 0 || what > 7) {
            return OUTSIDE;
        }
        Vessel v = boats.get(boat);
        int floats = has.get(v.at) >= v.needs() ? 1 : 0;
        return new int[] {v.kind, v.draught, v.can, v.needs(), v.carries(), v.at, v.load,
            floats}[what];
    }

    int as(int boat, int kind) {
        if (!isBoat(boat)) {
            return UNKNOWN;
        }
        if (kind < 0 || kind > 4) {
            return OUTSIDE;
        }
        int is = boats.get(boat).kind;
        return kind == 0 || kind == is || kind == 3 && is == 4 ? boat : NONE;
    }

    private boolean canRise(Vessel v, List<Integer> water) {
        return v.at < holds.size() - 1 && water.get(v.at) >= v.needs()
                && water.get(v.at + 1) >= v.needs();
    }

    private static boolean canTake(Vessel v, List<Integer> water, int k) {
        return k >= 1 && water.get(v.at) >= k && v.load + k <= v.carries();
    }

    private boolean canPour(Vessel v, int way) {
        return v.load >= 1 && v.at + way < holds.size();
    }

    private static boolean canDown(Vessel v) {
        return v.load == 0 && v.at != 0;
    }

    private static void doTake(Vessel v, List<Integer> water, int k) {
        v.load += k;
        if (v.at != 0) {
            water.set(v.at, water.get(v.at) - k);
        }
    }

    /** Bucket by bucket, each down the stair until a basin has room. */
    private int doPour(List<Integer> water, int basin, int buckets) {
        int gone = 0;
        for (int b = 0; b < buckets; b++) {
            int at = basin;
            while (at > 0 && water.get(at).equals(holds.get(at))) {
                at--;
            }
            if (at == 0) {
                gone++;
            } else {
                water.set(at, water.get(at) + 1);
            }
        }
        return gone;
    }

    private void doDay(List<Integer> water, int rain) {
        doPour(water, holds.size() - 1, rain);
        for (int i = 1; i < holds.size(); i++) {
            for (int lost = 0; lost < leaks.get(i) && water.get(i) > 0; lost++) {
                water.set(i, water.get(i) - 1);
            }
        }
    }

    private static int above(List<Integer> water) {
        int sum = 0;
        for (int i = 1; i < water.size(); i++) {
            sum += water.get(i);
        }
        return sum;
    }

    int rise(int boat) {
        if (!isBoat(boat)) {
            return UNKNOWN;
        }
        if (!canRise(boats.get(boat), has)) {
            return STATE;
        }
        return ++boats.get(boat).at;
    }

    int take(int boat, int buckets) {
        if (!isBoat(boat)) {
            return UNKNOWN;
        }
        if (buckets < 1 || buckets > 6) {
            return OUTSIDE;
        }
        if (!canTake(boats.get(boat), has, buckets)) {
            return STATE;
        }
        doTake(boats.get(boat), has, buckets);
        return boats.get(boat).load;
    }

    int pour(int boat, int way) {
        if (!isBoat(boat)) {
            return UNKNOWN;
        }
        if (way != 0 && way != 1) {
            return OUTSIDE;
        }
        Vessel v = boats.get(boat);
        if (!canPour(v, way)) {
            return STATE;
        }
        int gone = doPour(has, v.at + way, v.load);
        v.load = 0;
        return gone;
    }

    int down(int boat) {
        if (!isBoat(boat)) {
            return UNKNOWN;
        }
        Vessel v = boats.get(boat);
        if (!canDown(v)) {
            return STATE;
        }
        int was = v.at;
        v.at = 0;
        return was;
    }

    int day(int rain) {
        if (rain < 0 || rain > 9) {
            return OUTSIDE;
        }
        if (holds.isEmpty()) {
            return STATE;
        }
        doDay(has, rain);
        days++;
        return above(has);
    }

    /** A place in the search: boat, carrier, water. */
    private static final class Scene {
        Vessel boat;
        Vessel carrier;
        List<Integer> water;

        Scene(Vessel boat, Vessel carrier, List<Integer> water) {
            this.boat = boat.copy();
            this.carrier = carrier.copy();
            this.water = new ArrayList<>(water);
        }

        Scene copy() {
            return new Scene(boat, carrier, water);
        }

        String key() {
            return boat.at + " " + carrier.at + " " + carrier.load + " " + water;
        }
    }

    /** What comes of an act, by its number in the document; null if it can't be done. */
    private Scene acted(Scene from, int act) {
        Scene s = from.copy();
        if (act == 0 && canRise(s.boat, s.water)) {
            s.boat.at++;
        } else if (act == 1 && canRise(s.carrier, s.water)) {
            s.carrier.at++;
        } else if (act == 2 && canDown(s.carrier)) {
            s.carrier.at = 0;
        } else if ((act == 3 || act == 4) && canPour(s.carrier, act - 3)) {
            doPour(s.water, s.carrier.at + act - 3, s.carrier.load);
            s.carrier.load = 0;
        } else if (act > 10 && canTake(s.carrier, s.water, act - 10)) {
            doTake(s.carrier, s.water, act - 10);
        } else {
            return null;
        }
        return s;
    }

    /** The fewest acts from a scene, NONE if there are none within the limit. */
    private int actsFrom(Scene start, int limit) {
        int top = holds.size() - 1;
        Map<String, Integer> far = new HashMap<>();
        ArrayDeque<Scene> open = new ArrayDeque<>();
        far.put(start.key(), 0);
        open.add(start);
        while (!open.isEmpty()) {
            Scene s = open.remove();
            int n = far.get(s.key());
            if (s.boat.at == top) {
                return n;
            }
            for (int act = 0; act <= 16 && n < limit; act++) {
                Scene t = acted(s, act);
                if (t != null && far.putIfAbsent(t.key(), n + 1) == null) {
                    open.add(t);
                }
            }
        }
        return NONE;
    }

    int fewest(int boat, int carrier, int what) {
        if (!isBoat(boat) || !isBoat(carrier) || boat == carrier) {
            return UNKNOWN;
        }
        if (what != 0 && what != 1) {
            return OUTSIDE;
        }
        if (!boats.get(carrier).carrier() || fewests == 40) {
            return STATE;
        }
        fewests++;
        Scene start = new Scene(boats.get(boat), boats.get(carrier), has);
        int n = actsFrom(start, 1000000);
        if (what == 0 || n <= 0) {
            return what == 1 ? NONE : n;
        }
        for (int act = 0; act <= 16; act++) {
            Scene next = acted(start, act);
            if (next != null && actsFrom(next, n - 1) == n - 1) {
                return act;
            }
        }
        throw new IllegalStateException("no first act");
    }

    int lacks(int boat) {
        if (!isBoat(boat)) {
            return UNKNOWN;
        }
        Vessel v = boats.get(boat);
        if (v.at == holds.size() - 1) {
            return NONE;
        }
        for (int more = 0; has.get(v.at + 1) + more <= holds.get(v.at + 1); more++) {
            if (has.get(v.at + 1) + more >= v.needs()) {
                return more;
            }
        }
        return NONE;
    }

    int lasts(int basin) {
        if (!isBasin(basin)) {
            return UNKNOWN;
        }
        List<Integer> water = new ArrayList<>(has);
        for (int n = 0; n < 10; n++) {
            if (water.get(basin) == 0) {
                return n;
            }
            doDay(water, 0);
        }
        return NONE;
    }

    int lined(int daysOf) {
        if (daysOf < 1 || daysOf > 9) {
            return OUTSIDE;
        }
        if (holds.isEmpty()) {
            return STATE;
        }
        int best = NONE;
        int most = NONE;
        for (int i = 1; i < holds.size(); i++) {
            List<Integer> water = new ArrayList<>(has);
            int leaked = leaks.set(i, 0);
            for (int n = 0; n < daysOf; n++) {
                doDay(water, 0);
            }
            leaks.set(i, leaked);
            if (above(water) > most) {
                most = above(water);
                best = i;
            }
        }
        return best;
    }

    /** The weight, out of 10 to the days, of all weathers behind which it has enough. */
    private BigInteger weight(int basin, int buckets, int daysOf, int tenths, int need) {
        if (daysOf == 0) {
            return buckets >= need ? BigInteger.ONE : BigInteger.ZERO;
        }
        int wet = buckets < holds.get(basin) ? buckets + 1 : buckets;
        int lost = leaks.get(basin);
        BigInteger withRain =
                weight(basin, wet > lost ? wet - lost : 0, daysOf - 1, tenths, need);
        BigInteger without =
                weight(basin, buckets > lost ? buckets - lost : 0, daysOf - 1, tenths, need);
        return withRain.multiply(BigInteger.valueOf(tenths))
                .add(without.multiply(BigInteger.valueOf(10 - tenths)));
    }

    long chance(int basin, int daysOf, int tenths, int need, int part) {
        if (!isBasin(basin) || basin == 0) {
            return UNKNOWN;
        }
        if (daysOf < 1 || daysOf > 9 || tenths < 0 || tenths > 10 || need < 0 || need > 5
                || part < 0 || part > 1) {
            return OUTSIDE;
        }
        BigInteger good = weight(basin, has.get(basin), daysOf, tenths, need);
        BigInteger all = BigInteger.TEN.pow(daysOf);
        BigInteger both = good.gcd(all);
        return (part == 0 ? good : all).divide(both).longValueExact();
    }

    int mud(int basin, int buckets) {
        if (!isBasin(basin) || basin == 0) {
            return UNKNOWN;
        }
        if (buckets < 0 || buckets > holds.get(basin)) {
            return OUTSIDE;
        }
        mudBasin = basin;
        mudFrom = buckets;
        lines = new ArrayList<>();
        return holds.get(basin);
    }

    int line(int buckets) {
        if (mudBasin == NONE) {
            return STATE;
        }
        if (buckets < 0 || buckets > 5) {
            return OUTSIDE;
        }
        if (lines.size() == 7) {
            return FULL;
        }
        lines.add(buckets);
        return lines.size();
    }

    private boolean linesHold(int[] dayOf) {
        int level = mudFrom;
        for (int d = 1; d <= lines.size(); d++) {
            for (int b = 0; b < boats.size(); b++) {
                if (dayOf[b] == d) {
                    level = Math.min(level + boats.get(b).carries(), holds.get(mudBasin));
                }
            }
            level = Math.max(level - leaks.get(mudBasin), 0);
            if (level != lines.get(d - 1)) {
                return false;
            }
        }
        return true;
    }

    /** All ways: for each boat its day, 0 for none and for what is no carrier. */
    private void allWays(int boat, int[] dayOf, List<int[]> ways) {
        if (boat == boats.size()) {
            if (linesHold(dayOf)) {
                ways.add(dayOf.clone());
            }
            return;
        }
        int most = boats.get(boat).carrier() ? lines.size() : 0;
        for (int d = 0; d <= most; d++) {
            dayOf[boat] = d;
            allWays(boat + 1, dayOf, ways);
        }
        dayOf[boat] = 0;
    }

    private List<int[]> ways() {
        List<int[]> ways = new ArrayList<>();
        allWays(0, new int[5], ways);
        return ways;
    }

    int poured() {
        return mudBasin == NONE ? STATE : ways().size();
    }

    int sure(int boat) {
        if (!isBoat(boat)) {
            return UNKNOWN;
        }
        if (mudBasin == NONE || !boats.get(boat).carrier()) {
            return STATE;
        }
        List<int[]> ways = ways();
        if (ways.isEmpty()) {
            return NONE;
        }
        for (int[] way : ways) {
            if (way[boat] != ways.get(0)[boat]) {
                return NONE;
            }
        }
        return ways.get(0)[boat];
    }

    int weeks(int daysOf, int seed, int what) {
        if (daysOf < 1 || daysOf > 60 || seed < 0 || what < 0 || what > 2) {
            return OUTSIDE;
        }
        if (holds.isEmpty()) {
            return STATE;
        }
        List<Integer> water = new ArrayList<>(has);
        BigInteger s = BigInteger.valueOf(seed);
        for (int n = 0; n < daysOf; n++) {
            s = s.multiply(BigInteger.valueOf(1103515245)).add(BigInteger.valueOf(12345))
                    .mod(BigInteger.TWO.pow(31));
            doDay(water, s.divide(BigInteger.valueOf(65536)).mod(BigInteger.valueOf(4)).intValue());
        }
        if (what == 1) {
            int n = 0;
            for (Vessel v : boats) {
                n += water.get(v.at) >= v.needs() ? 1 : 0;
            }
            return n;
        }
        return what == 0 ? above(water) : s.intValueExact();
    }

    int image() {
        if (holds.isEmpty()) {
            return STATE;
        }
        kept = new Kept();
        kept.stairs = stairs;
        kept.days = days;
        kept.has = new ArrayList<>(has);
        kept.mudBasin = mudBasin;
        kept.mudFrom = mudFrom;
        kept.lines = new ArrayList<>(lines);
        for (Vessel v : boats) {
            kept.boats.add(v.copy());
        }
        return boats.size();
    }

    int restore() {
        if (kept == null || kept.stairs != stairs) {
            return STATE;
        }
        days = kept.days;
        has = new ArrayList<>(kept.has);
        mudBasin = kept.mudBasin;
        mudFrom = kept.mudFrom;
        lines = new ArrayList<>(kept.lines);
        boats = new ArrayList<>();
        for (Vessel v : kept.boats) {
            boats.add(v.copy());
        }
        return boats.size();
    }

    int count(int what) {
        if (what < 0 || what > 7) {
            return OUTSIDE;
        }
        int[] all = {holds.size(), boats.size(), above(has), days, lines.size(), page.length(),
            stairs, fewests};
        return all[what];
    }

    long digest() {
        List<Integer> told = new ArrayList<>();
        for (int i = 0; i < holds.size(); i++) {
            told.addAll(Arrays.asList(holds.get(i), leaks.get(i), has.get(i), lasts(i)));
        }
        for (int i = 0; i < boats.size(); i++) {
            for (int what = 0; what < 8; what++) {
                told.add(about(i, what));
            }
            told.add(lacks(i));
        }
        if (!holds.isEmpty()) {
            told.add(lined(3));
        }
        told.addAll(lines);
        if (mudBasin != NONE) {
            told.add(poured());
        }
        for (char c : page.toCharArray()) {
            told.add((int) c);
        }
        for (int what = 0; what < 8; what++) {
            told.add(count(what));
        }
        BigInteger h = BigInteger.valueOf(653);
        for (int n : told) {
            h = h.multiply(BigInteger.valueOf(31)).add(BigInteger.valueOf(n));
        }
        return h.longValue();
    }
}
