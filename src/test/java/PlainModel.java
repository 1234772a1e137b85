import java.math.BigInteger;
import java.util.ArrayList;
import java.util.HashMap;
import java.util.List;
import java.util.Map;
import java.util.TreeMap;
import java.util.TreeSet;

/**
 * The document once more, written on its own and as plainly as can be: maps, texts and all ways tried, without the
 * bits, the searches that leave early, or the rows used again of NodTax.
 */
final class PlainModel {
    static final int NONE = -6, UNKNOWN = -1, OUTSIDE = -2, STATE = -3, FULL = -4, NO = -5;
    static final long LOST = -1000000000000000000L;

    /** One HEARER. */
    record Person(int seat, int awake, int dull, int creed, boolean upright) {
        Person in(int newSeat) {
            return new Person(newSeat, awake, dull, creed, upright);
        }

        Person hiredUpright() {
            return new Person(seat, awake, dull, creed, true);
        }
    }

    /** What happened to one HEARER in one minute. */
    record Fate(int behind, boolean nods, boolean agrees, boolean snores, int row) {
        boolean dips() {
            return nods || agrees;
        }
    }

    /** All but the PAD. */
    static final class World {
        int rows = 2;
        int reach = 4;
        int tax = 1;
        int inspector = 0;
        TreeMap<Integer, Person> people = new TreeMap<>();
        List<int[]> sights = new ArrayList<>();

        World copy() {
            World w = new World();
            w.rows = rows;
            w.reach = reach;
            w.tax = tax;
            w.inspector = inspector;
            w.people = new TreeMap<>(people);
            w.sights = new ArrayList<>(sights);
            return w;
        }
    }

    private World world = new World();
    private final World[] images = new World[2];
    private String pad = "";

    // ---- the minutes

    private static List<Map<Integer, Fate>> preach(World w, String text, int coldBits) {
        List<Map<Integer, Fate>> all = new ArrayList<>();
        Map<Integer, Integer> level = new HashMap<>();
        for (int h : w.people.keySet()) {
            level.put(h, w.people.get(h).awake());
        }
        int names = 0;
        int starts = 0;
        for (int m = 0; m < text.length(); m++) {
            char sign = text.charAt(m);
            boolean cold = (coldBits >> m & 1) == 1;
            List<Integer> turns = new ArrayList<>(w.people.keySet());
            for (int h : w.people.keySet()) {
                Person p = w.people.get(h);
                int more = cold ? 0 : -p.dull();
                if (sign == 'w') {
                    more -= 2;
                } else if (sign == 'h') {
                    more += 3;
                } else if (sign == 'o') {
                    more += 1;
                } else if (sign == 'n') {
                    more += turns.get(names % turns.size()) == h ? 5 : 0;
                } else if (sign == 's') {
                    int reach = w.reach - 2 * (p.seat() / 4) - starts;
                    more += reach > 0 ? reach : 0;
                } else if (sign == '~') {
                    more += 2;
                }
                int now = level.get(h) + more;
                now = now < 0 ? 0 : now;
                level.put(h, now > p.awake() ? p.awake() : now);
            }
            names += sign == 'n' ? 1 : 0;
            starts += sign == 's' ? 1 : 0;
            all.add(heads(w, sign, level));
        }
        return all;
    }

    private static Map<Integer, Fate> heads(World w, char sign, Map<Integer, Integer> level) {
        Map<Integer, Boolean> nodAtSeat = new HashMap<>();
        for (int h : w.people.keySet()) {
            Person p = w.people.get(h);
            nodAtSeat.put(p.seat(), level.get(h) == 0 && !p.upright());
        }
        Map<Integer, Fate> fates = new TreeMap<>();
        for (int h : w.people.keySet()) {
            Person p = w.people.get(h);
            boolean nods = nodAtSeat.get(p.seat());
            Boolean left = p.seat() % 4 == 0 ? null : nodAtSeat.get(p.seat() - 1);
            Boolean right = p.seat() % 4 == 3 ? null : nodAtSeat.get(p.seat() + 1);
            boolean snores = nods && left != null && left && right != null && right;
            boolean elbowed = nods && (left != null && !left || right != null && !right);
            boolean agrees = sign == 'c' && p.creed() == 1 && !p.upright() && !nods;
            if (elbowed) {
                level.put(h, p.awake() < 2 ? p.awake() : 2);
            }
            fates.put(h, new Fate(level.get(h), nods, agrees, snores, p.seat() / 4));
        }
        return fates;
    }

    private static int[] sums(World w, String text, int coldBits) {
        List<Map<Integer, Fate>> all = preach(w, text, coldBits);
        int[] sums = new int[5];
        for (int m = 0; m < all.size(); m++) {
            for (Fate f : all.get(m).values()) {
                sums[0] += f.nods() ? 1 : 0;
                sums[1] += f.dips() ? 1 : 0;
                sums[2] += f.dips() && f.row() >= w.inspector ? w.tax : 0;
                sums[3] += f.nods() ? 0 : text.charAt(m) == 'h' ? 1 : text.charAt(m) == 'o' ? 2 : 0;
                sums[4] += f.snores() ? 1 : 0;
            }
        }
        return sums;
    }

    private static int gainOf(World w, String text) {
        int[] s = sums(w, text, 0);
        return s[3] - s[2];
    }

    private static TreeSet<String> allOrders(String text) {
        TreeSet<String> orders = new TreeSet<>();
        if (text.isEmpty()) {
            orders.add("");
        }
        for (int i = 0; i < text.length(); i++) {
            for (String rest : allOrders(text.substring(0, i) + text.substring(i + 1))) {
                orders.add(text.charAt(i) + rest);
            }
        }
        return orders;
    }

    // ---- 1

    int church(int rows) {
        if (rows < 1 || rows > 3) {
            return OUTSIDE;
        }
        int was = world.rows;
        world.rows = rows;
        world.people.clear();
        world.sights.clear();
        world.inspector = 0;
        return was;
    }

    int hearer(int hearer, int seat, int awake, int dull, int creed, boolean upright) {
        if (hearer < 0 || hearer > 7 || seat < 0 || seat > 4 * world.rows - 1) {
            return UNKNOWN;
        }
        if (awake < 0 || awake > 20 || dull < 0 || dull > 5 || creed < 0 || creed > 1) {
            return OUTSIDE;
        }
        for (int h : world.people.keySet()) {
            if (h != hearer && world.people.get(h).seat() == seat) {
                return STATE;
            }
        }
        world.people.put(hearer, new Person(seat, awake, dull, creed, upright));
        return world.people.size();
    }

    int leave(int hearer) {
        return world.people.remove(hearer) == null ? UNKNOWN : world.people.size();
    }

    int set(int which, int v) {
        int was;
        if (which == 0 && v >= 1 && v <= 9) {
            was = world.reach;
            world.reach = v;
        } else if (which == 1 && v >= 0 && v <= 9) {
            was = world.tax;
            world.tax = v;
        } else if (which == 2 && v >= 0 && v <= 2) {
            was = world.inspector;
            world.inspector = v;
        } else {
            was = OUTSIDE;
        }
        return was;
    }

    int say(int sign) {
        if (sign < 33 || sign > 126) {
            return OUTSIDE;
        }
        if (pad.length() == 60) {
            return FULL;
        }
        pad += (char) sign;
        return pad.length();
    }

    int wipe() {
        int was = pad.length();
        pad = "";
        return was;
    }

    int fault() {
        for (int i = 0; i < pad.length(); i++) {
            if ("whoncs~".indexOf(pad.charAt(i)) < 0) {
                return i;
            }
        }
        return NONE;
    }

    private boolean faulty() {
        return !pad.matches("[whoncs~]*");
    }

    // ---- 2

    int heard(int hearer, int m, int what) {
        if (!world.people.containsKey(hearer)) {
            return UNKNOWN;
        }
        if (what < 0 || what > 3) {
            return OUTSIDE;
        }
        if (faulty()) {
            return NO;
        }
        if (m < 0 || m >= pad.length()) {
            return OUTSIDE;
        }
        Fate f = preach(world, pad, 0).get(m).get(hearer);
        boolean did = what == 1 ? f.nods() : what == 2 ? f.agrees() : f.snores();
        return what == 0 ? f.behind() : did ? 1 : 0;
    }

    int sum(int m, int what) {
        if (what < 0 || what > 4) {
            return OUTSIDE;
        }
        if (faulty()) {
            return NO;
        }
        if (m < -1 || m >= pad.length()) {
            return OUTSIDE;
        }
        return sums(world, m == -1 ? pad : pad.substring(0, m + 1), 0)[what];
    }

    int first(int what) {
        if (what < 0 || what > 1) {
            return OUTSIDE;
        }
        if (faulty()) {
            return NO;
        }
        for (int m = 0; m < pad.length(); m++) {
            if (sums(world, pad.substring(0, m + 1), 0)[what == 0 ? 0 : 4] > 0) {
                return m;
            }
        }
        return NONE;
    }

    int gain() {
        return faulty() ? NO : 10000 + gainOf(world, pad);
    }

    // ---- 3

    int order(int what, int place) {
        if (what < 0 || what > 1) {
            return OUTSIDE;
        }
        if (faulty()) {
            return NO;
        }
        if (pad.length() > 7) {
            return FULL;
        }
        String best = null;
        int bestValue = 0;
        for (String text : allOrders(pad)) {
            int value = what == 0 ? -sums(world, text, 0)[2] : gainOf(world, text);
            if (best == null || value > bestValue) {
                best = text;
                bestValue = value;
            }
        }
        if (place == -1) {
            return what == 0 ? -bestValue : 10000 + bestValue;
        }
        return place < 0 || place >= pad.length() ? NONE : best.charAt(place);
    }

    int start(int what) {
        if (what < 0 || what > 1) {
            return OUTSIDE;
        }
        if (faulty()) {
            return NO;
        }
        if (pad.length() > 59) {
            return FULL;
        }
        int bestPlace = 0;
        int best = Integer.MIN_VALUE;
        for (int i = 0; i <= pad.length(); i++) {
            int gain = gainOf(world, pad.substring(0, i) + "s" + pad.substring(i));
            if (gain > best) {
                best = gain;
                bestPlace = i;
            }
        }
        return what == 0 ? 10000 + best : bestPlace;
    }

    int seated(int what) {
        if (what < 0 || what > 1) {
            return OUTSIDE;
        }
        if (faulty()) {
            return NO;
        }
        int now = sums(world, pad, 0)[0];
        TreeMap<Integer, TreeSet<Integer>> codesByNods = new TreeMap<>();
        for (int h : world.people.keySet()) {
            for (int seat = 0; seat < 4 * world.rows; seat++) {
                World w = world.copy();
                int from = w.people.get(h).seat();
                for (int g : world.people.keySet()) {
                    if (w.people.get(g).seat() == seat) {
                        w.people.put(g, w.people.get(g).in(from));
                    }
                }
                w.people.put(h, w.people.get(h).in(seat));
                if (seat != from) {
                    codesByNods.computeIfAbsent(sums(w, pad, 0)[0], k -> new TreeSet<>()).add(100 * h + seat);
                }
            }
        }
        boolean better = !codesByNods.isEmpty() && codesByNods.firstKey() < now;
        if (what == 0) {
            return better ? codesByNods.firstKey() : now;
        }
        return better ? codesByNods.firstEntry().getValue().first() : NONE;
    }

    int hired(int v, int what) {
        if (v < 0 || v > 999 || what < 0 || what > 1) {
            return OUTSIDE;
        }
        if (faulty()) {
            return NO;
        }
        int best = -1;
        for (int bits = 0; bits < 256; bits++) {
            World w = world.copy();
            boolean may = true;
            for (int h = 0; h < 8; h++) {
                if ((bits >> h & 1) == 1) {
                    Person p = w.people.get(h);
                    may = may && p != null && !p.upright();
                    if (p != null) {
                        w.people.put(h, p.hiredUpright());
                    }
                }
            }
            boolean fewer = best < 0 || Integer.bitCount(bits) < Integer.bitCount(best);
            if (may && fewer && sums(w, pad, 0)[2] <= v) {
                best = bits;
            }
        }
        return best < 0 ? NONE : what == 0 ? Integer.bitCount(best) : best;
    }

    int least() {
        if (faulty()) {
            return NO;
        }
        if (pad.length() > 59) {
            return FULL;
        }
        for (int rate = 1; rate <= 9; rate++) {
            World w = world.copy();
            w.tax = rate;
            if (gainOf(w, pad + "h") <= gainOf(w, pad)) {
                return rate;
            }
        }
        return NONE;
    }

    // ---- 4

    int seen(int m, int dips) {
        if (m < 0 || m > 59 || dips < 0 || dips > 8) {
            return OUTSIDE;
        }
        if (world.sights.size() == 8) {
            return FULL;
        }
        world.sights.add(new int[] {m, dips});
        return world.sights.size();
    }

    int forget() {
        int was = world.sights.size();
        world.sights.clear();
        return was;
    }

    private List<String> fitting() {
        List<String> fit = new ArrayList<>();
        for (String text : allOrders(pad)) {
            List<Map<Integer, Fate>> all = preach(world, text, 0);
            boolean hold = true;
            for (int[] sight : world.sights) {
                hold = hold && sight[0] < text.length()
                        && all.get(sight[0]).values().stream().filter(Fate::dips).count() == sight[1];
            }
            if (hold) {
                fit.add(text);
            }
        }
        return fit;
    }

    int preached(int place) {
        if (faulty()) {
            return NO;
        }
        if (pad.length() > 6) {
            return FULL;
        }
        List<String> fit = fitting();
        if (place == -1) {
            return fit.size();
        }
        return fit.isEmpty() || place < 0 || place >= pad.length() ? NONE : fit.get(0).charAt(place);
    }

    int surely() {
        if (faulty()) {
            return NO;
        }
        if (pad.length() > 6) {
            return FULL;
        }
        List<String> fit = fitting();
        int bits = 0;
        for (int i = 0; i < pad.length() && !fit.isEmpty(); i++) {
            int place = i;
            bits |= fit.stream().map(t -> t.charAt(place)).distinct().count() == 1 ? 1 << i : 0;
        }
        return bits;
    }

    int dips(int hearer, int what) {
        if (!world.people.containsKey(hearer)) {
            return UNKNOWN;
        }
        if (what < 0 || what > 1) {
            return OUTSIDE;
        }
        if (faulty()) {
            return NO;
        }
        List<Map<Integer, Fate>> all = preach(world, pad, 0);
        int bits = 0;
        for (int m = 0; m < all.size() && m < 30; m++) {
            Fate f = all.get(m).get(hearer);
            bits |= (what == 0 ? f.dips() : f.agrees()) ? 1 << m : 0;
        }
        return bits;
    }

    int alike(int i) {
        if (faulty()) {
            return NO;
        }
        List<Map<Integer, Fate>> all = preach(world, pad, 0);
        List<Integer> twos = new ArrayList<>();
        for (int a : world.people.keySet()) {
            for (int b : world.people.tailMap(a, false).keySet()) {
                if (all.stream().allMatch(f -> f.get(a).dips() == f.get(b).dips())) {
                    twos.add(10 * a + b);
                }
            }
        }
        return i == -1 ? twos.size() : i < 0 || i >= twos.size() ? NONE : twos.get(i);
    }

    int parishes(int church) {
        if (church < -1 || church > 2) {
            return OUTSIDE;
        }
        TreeMap<Integer, Integer> at = new TreeMap<>();
        world.people.keySet().forEach(h -> at.put(h, 0));
        int rounds = 0;
        boolean went = true;
        while (went && rounds < 99) {
            went = false;
            rounds++;
            for (int h : world.people.keySet()) {
                int[] likes = new int[3];
                for (int k = 0; k < 3; k++) {
                    int hell = k;
                    int hope = 2 - k;
                    int church1 = k;
                    long others = at.entrySet().stream().filter(e -> e.getKey() != h && e.getValue() == church1).count();
                    likes[k] = 2 * (world.people.get(h).creed() == 0 ? hell : hope) - (int) others;
                }
                int most = Math.max(likes[0], Math.max(likes[1], likes[2]));
                if (likes[at.get(h)] < most) {
                    at.put(h, likes[0] == most ? 0 : likes[1] == most ? 1 : 2);
                    went = true;
                }
            }
        }
        if (church == -1) {
            return went ? NONE : rounds;
        }
        return (int) at.values().stream().filter(k -> k == church).count();
    }

    long cold(int t, int what, int part) {
        if (t < 0 || t > 10 || what < 0 || what > 1 || part < 0 || part > 1) {
            return LOST + OUTSIDE;
        }
        if (faulty()) {
            return LOST + NO;
        }
        if (pad.length() > 10) {
            return LOST + FULL;
        }
        BigInteger upper = BigInteger.ZERO;
        for (int bits = 0; bits < 1 << pad.length(); bits++) {
            int nods = sums(world, pad, bits)[0];
            BigInteger weight = BigInteger.valueOf(t).pow(Integer.bitCount(bits))
                    .multiply(BigInteger.valueOf(10 - t).pow(pad.length() - Integer.bitCount(bits)));
            upper = upper.add(weight.multiply(BigInteger.valueOf(what == 0 ? nods == 0 ? 1 : 0 : nods)));
        }
        BigInteger lower = BigInteger.TEN.pow(pad.length());
        BigInteger g = upper.gcd(lower);
        return (part == 0 ? upper : lower).divide(g).longValueExact();
    }

    int year(int seed, int m, int what) {
        if (seed < 0 || seed > 9999 || m < 1 || m > 50 || what < 0 || what > 2) {
            return OUTSIDE;
        }
        long x = seed;
        int total = 0;
        for (int i = 0; i < m; i++) {
            StringBuilder text = new StringBuilder();
            for (int k = 0; k < 6; k++) {
                x = (75 * x + 74) % 65537;
                text.append("whoncs~".charAt((int) (x % 7)));
            }
            int[] s = sums(world, text.toString(), 0);
            total += what == 0 ? s[2] : what == 1 ? s[3] : s[0] == 0 ? 1 : 0;
        }
        return total;
    }

    int image(int n) {
        if (n < 0 || n > 1) {
            return OUTSIDE;
        }
        images[n] = world.copy();
        return 1;
    }

    int restore(int n) {
        if (n < 0 || n > 1) {
            return OUTSIDE;
        }
        if (images[n] == null) {
            return STATE;
        }
        world = images[n].copy();
        return 1;
    }

    int told(int what) {
        int bits = world.people.keySet().stream().mapToInt(h -> 1 << h).sum();
        int[] plain = {pad.length(), world.rows, bits, world.reach, world.tax, world.inspector, world.sights.size()};
        if (what >= 0 && what < plain.length) {
            return plain[what];
        }
        Person p = what < 10 ? null : world.people.get(what / 10 - 1);
        if (p == null || what % 10 > 4) {
            return OUTSIDE;
        }
        return new int[] {p.seat(), p.awake(), p.dull(), p.creed(), p.upright() ? 1 : 0}[what % 10];
    }
}
