import java.util.ArrayList;
import java.util.Collections;
import java.util.List;

/** The document once more, by other ways and with no care for speed: what ModelTests holds the class against. */
final class PlainModel {
    static class Dog {
        int pace, number, house;
        int pull(int q) { return pace; }
        boolean right(int s, int q) { return q >= s; }
    }
    static class Puller extends Dog {
        int pull(int q) { return super.pull(q) + number; }
        boolean right(int s, int q) { return q + (number > 4 ? 1 : 0) >= s; }
    }
    static class Old extends Dog {
        int pull(int q) { return super.pull(q) / 2; }
    }
    static class Round extends Puller {
        int pull(int q) { return super.pull(q) + q; }
        boolean right(int s, int q) { return false; }
    }
    static class Calm extends Old {
        int pull(int q) { return super.pull(q) - 2; }
        boolean right(int s, int q) { return super.right(s, q) || q == 0; }
    }
    static class Young extends Puller {
        int pull(int q) { return 2 * super.pull(q) - q; }
        boolean right(int s, int q) { return q % 2 == 0 ? !super.right(s, q) : super.right(s, q); }
    }
    static final Class<?>[] KINDS = {Dog.class, Puller.class, Old.class, Round.class, Calm.class, Young.class};

    static final int NONE_SUCH = -100000;

    final List<Dog> dogs = new ArrayList<>();
    List<Integer> hand = new ArrayList<>();
    List<int[]> plait = new ArrayList<>();
    int rule = 0;
    String tape = "";
    final List<String> texts = new ArrayList<>(List.of("odds pace ; worth 10 - pace ; minds 1 ;"));
    final Object[] sheets = new Object[4];
    int[][] keptDogs;
    List<Integer> keptHand;
    List<int[]> keptPlait;
    int keptRule;

    private int n() { return dogs.size(); }
    private boolean isDog(int d) { return d >= 0 && d < n(); }

    // ---- dogs
    int dog(int kind, int what, int house) {
        if (kind < 0 || kind > 5 || what / 10 < 1 || what / 10 > 9 || house < 0 || house > 99) return -2;
        if (!plait.isEmpty()) return -3;
        if (n() == 6) return -4;
        Dog d = kind == 0 ? new Dog() : kind == 1 ? new Puller() : kind == 2 ? new Old()
                : kind == 3 ? new Round() : kind == 4 ? new Calm() : new Young();
        d.pace = what / 10;
        d.number = what % 10;
        d.house = house;
        hand.add(n());
        dogs.add(d);
        return n() - 1;
    }
    int set(int dog, int what, int v) {
        if (!isDog(dog)) return -2;
        Dog d = dogs.get(dog);
        int was = -2;
        if (what == 0 && v >= 1 && v <= 9) { was = d.pace; d.pace = v; }
        if (what == 1 && v >= 0 && v <= 9) { was = d.number; d.number = v; }
        if (what == 2 && v >= 0 && v <= 99) { was = d.house; d.house = v; }
        return was;
    }
    int told(int dog, int what) {
        if (!isDog(dog) || what < 0 || what > 5) return -2;
        Dog d = dogs.get(dog);
        int q = hand.indexOf(dog);
        int kind = 0;
        for (int k = 0; k < 6; k++) if (KINDS[k] == d.getClass()) kind = k;
        return new int[] {d.pace, d.number, d.house, kind, q, Math.max(0, d.pull(q))}[what];
    }
    int asks(int a, int b, int what) {
        if (!isDog(a) || !isDog(b) || a == b || what < 0 || what > 2) return NONE_SUCH;
        return ask(what, a, b, hand, -1);
    }
    /** near below 0: as it is in the order. */
    private int ask(int part, int a, int b, List<Integer> order, int near) {
        int one = Math.min(a, b), other = Math.max(a, b);
        int apart = near < 0 ? Math.abs(order.indexOf(a) - order.indexOf(b)) : near;
        int[] names = {one, other, Math.abs(dogs.get(a).pace - dogs.get(b).pace), apart, n(), order.indexOf(one)};
        int v = PlainTexts.value(texts.get(rule), part, names);
        int low = part == 1 ? -99 : 0;
        return v < low ? low : v > 99 ? 99 : v;
    }

    // ---- texts
    int feed(int letter) {
        if (letter < 0 || letter > 255) return -2;
        if (tape.length() == 160) return -4;
        tape += (char) letter;
        return tape.length();
    }
    int text() {
        if (texts.size() == 6) return -4;
        String t = tape;
        tape = "";
        int fault = PlainTexts.fault(t);
        if (fault >= 0) return -100 - fault;
        texts.add(t);
        return texts.size() - 1;
    }
    int force(int text) {
        if (text < 0 || text >= texts.size()) return -2;
        int was = rule;
        rule = text;
        return was;
    }

    // ---- crossings
    int cross(int p, int over) {
        if (p < 0 || p > n() - 2 || over < 0 || over > 1) return -2;
        if (plait.size() == 40) return -4;
        plait.add(new int[] {p, over});
        Collections.swap(hand, p, p + 1);
        return plait.size();
    }
    int undo() {
        if (plait.isEmpty()) return -3;
        int[] last = plait.remove(plait.size() - 1);
        Collections.swap(hand, last[0], last[0] + 1);
        return plait.size();
    }
    /** What is left, as the crossings themselves. */
    static List<int[]> leftOf(List<int[]> row) {
        List<int[]> left = new ArrayList<>();
        for (int[] c : row) {
            int found = -1;
            for (int i = 0; i < left.size(); i++) {
                int d = left.get(i)[0] - c[0];
                if (d == -1 || d == 0 || d == 1) found = i;
            }
            if (found >= 0 && left.get(found)[0] == c[0] && left.get(found)[1] != c[1]) left.remove(found);
            else left.add(c);
        }
        return left;
    }
    /** The tangle with the dogs of each crossing, by walking the plait from how the dogs came. */
    private List<int[]> tangleWithDogs() {
        List<Integer> order = new ArrayList<>();
        for (int i = 0; i < n(); i++) order.add(i);
        List<int[]> row = new ArrayList<>();
        for (int[] c : plait) {
            row.add(new int[] {c[0], c[1], order.get(c[0]), order.get(c[0] + 1)});
            Collections.swap(order, c[0], c[0] + 1);
        }
        return leftOf(row);
    }
    int comb() {
        List<int[]> left = leftOf(plait);
        int went = plait.size() - left.size();
        plait = left;
        return went;
    }
    int at(int place) { return place < 0 || place >= n() ? -2 : hand.get(place); }
    int left(int i) {
        List<int[]> left = leftOf(plait);
        return i < 0 || i >= left.size() ? -1 : 10 * left.get(i)[0] + left.get(i)[1];
    }
    int who(int a, int b) {
        if (!isDog(a) || !isDog(b)) return -2;
        int many = 0;
        for (int[] c : tangleWithDogs()) {
            if (a == b && (c[2] == a || c[3] == a)) return 1;
            if (c[2] == a && c[3] == b || c[2] == b && c[3] == a) many++;
        }
        return many;
    }
    int without(int set) {
        if (set < 0 || set >= 1 << n()) return -2;
        List<Integer> order = new ArrayList<>();
        for (int i = 0; i < n(); i++) order.add(i);
        List<int[]> row = new ArrayList<>();
        for (int[] c : plait) {
            int p = c[0];
            if ((set >> order.get(p) & 1) == 0 && (set >> order.get(p + 1) & 1) == 0) {
                int place = 0;
                for (int q = 0; q < p; q++) if ((set >> order.get(q) & 1) == 0) place++;
                row.add(new int[] {place, c[1]});
            }
            Collections.swap(order, p, p + 1);
        }
        return leftOf(row).size();
    }
    int unclip(int what) {
        if (what < 0 || what > 1) return -2;
        for (int many = 0; many <= n(); many++)
            for (int set = 0; set < 1 << n(); set++)
                if (Integer.bitCount(set) == many && without(set) == 0) return what == 0 ? set : many;
        throw new IllegalStateException();
    }
    int cost() {
        int sum = 0;
        for (int[] c : tangleWithDogs()) sum += ask(2, c[2], c[3], hand, -1);
        return sum;
    }

    // ---- orders, posts
    static List<List<Integer>> allOrders(int n) {
        List<List<Integer>> all = new ArrayList<>();
        fill(all, new ArrayList<>(), n);
        return all;
    }
    private static void fill(List<List<Integer>> all, List<Integer> begun, int n) {
        if (begun.size() == n) all.add(new ArrayList<>(begun));
        for (int i = 0; i < n; i++) {
            if (begun.contains(i)) continue;
            begun.add(i);
            fill(all, begun, n);
            begun.remove(begun.size() - 1);
        }
    }
    private int oddsOf(List<Integer> order) {
        int sum = 0;
        for (int i = 0; i + 1 < n(); i++) sum += ask(0, order.get(i), order.get(i + 1), order, -1);
        return sum;
    }
    private List<Integer> bestOrder() {
        List<Integer> best = null;
        for (List<Integer> o : allOrders(n())) if (best == null || oddsOf(o) < oddsOf(best)) best = o;
        return best;
    }
    int atOdds(int what) {
        if (what < 0 || what > 1) return -2;
        return oddsOf(what == 0 ? hand : bestOrder());
    }
    int best(int place) { return place < 0 || place >= n() ? -2 : bestOrder().get(place); }
    private List<Integer> items(int sheet) {
        List<Integer> row = new ArrayList<>();
        for (int i = 0; i < size(sheet); i++) row.add(item(sheet, i));
        return row;
    }
    private int orderRefusal(int sheet) {
        if (sheet < 0 || sheet > 3) return -2;
        if (sheets[sheet] == null) return -11;
        List<Integer> sorted = items(sheet);
        Collections.sort(sorted);
        List<Integer> all = new ArrayList<>();
        for (int i = 0; i < n(); i++) all.add(i);
        return sorted.equals(all) ? 0 : -2;
    }
    /** By sorting with crossings of neighbours. */
    int swaps(int sheet) {
        int no = orderRefusal(sheet);
        if (no != 0) return no;
        List<Integer> goal = items(sheet), order = new ArrayList<>(hand);
        int many = 0;
        for (int round = 0; round < n(); round++)
            for (int p = 0; p + 1 < n(); p++)
                if (goal.indexOf(order.get(p)) > goal.indexOf(order.get(p + 1))) {
                    Collections.swap(order, p, p + 1);
                    many++;
                }
        return many;
    }
    int post(int s, int what) {
        if (s < 0 || s > n() || what < 0 || what > 2) return NONE_SUCH;
        int bits = 0, wound = 0, pulls = 0;
        for (int q = 0; q < n(); q++) {
            Dog d = dogs.get(hand.get(q));
            int pull = Math.max(0, d.pull(q));
            if (d.right(s, q)) bits |= 1 << hand.get(q);
            pulls += d.right(s, q) ? pull : -pull;
            for (int r = q + 1; r < n(); r++)
                if (d.right(s, q) && !dogs.get(hand.get(r)).right(s, r)) wound++;
        }
        return new int[] {bits, wound, pulls}[what];
    }
    int bestPost(int what) {
        if (what < 0 || what > 1) return -2;
        for (int wound = 0; ; wound++)
            for (int s = 0; s <= n(); s++) if (post(s, 1) == wound) return what == 0 ? s : wound;
    }
    int seen(int sheet, int k, int what) {
        int no = orderRefusal(sheet);
        if (no != 0) return no;
        if (k < 0 || k > 4 || what < 0 || what > 1) return -2;
        int each = n() < 2 ? 0 : 2 * (n() - 1), rows = 1, many = 0;
        for (int i = 0; i < k; i++) rows *= each;
        for (int r = 0; r < rows; r++) {
            List<int[]> row = new ArrayList<>();
            List<Integer> order = new ArrayList<>(hand);
            for (int i = 0, rest = r; i < k; i++, rest /= each) {
                int[] c = {rest % each / 2, rest % each % 2};
                row.add(c);
                Collections.swap(order, c[0], c[0] + 1);
            }
            if (order.equals(items(sheet)) && (what == 0 || leftOf(row).size() == k)) many++;
        }
        return many;
    }

    // ---- houses
    private int way(List<Integer> order) {
        int at = 0, sum = 0;
        for (int d : order) {
            sum += Math.abs(at - dogs.get(d).house);
            at = dogs.get(d).house;
        }
        return sum + at;
    }
    private List<Integer> fetchOrder() {
        List<Integer> best = null;
        for (List<Integer> o : allOrders(n())) if (best == null || way(o) < way(best)) best = o;
        return best;
    }
    int fetch() { return way(fetchOrder()); }
    int fetched(int place) { return place < 0 || place >= n() ? -2 : fetchOrder().get(place); }
    int walk() {
        int least = Integer.MAX_VALUE;
        for (List<Integer> o : allOrders(n())) {
            int sum = 0;
            for (int i = 0; i + 1 < n(); i++) sum += ask(0, o.get(i), o.get(i + 1), hand, 1);
            least = Math.min(least, sum);
        }
        return least;
    }
    int take(int what) {
        if (what < 0 || what > 1) return NONE_SUCH;
        int best = -1, most = 0;
        for (int set = 0; set < 1 << n(); set++) {
            int sum = 0;
            for (int a = 0; a < n(); a++) {
                if ((set >> a & 1) == 0) continue;
                sum -= 3 * dogs.get(a).pace;
                for (int b = 0; b < a; b++) if ((set >> b & 1) == 1) sum += ask(1, a, b, hand, -1);
            }
            if (best < 0 || sum > most) { best = set; most = sum; }
        }
        return what == 0 ? best : most;
    }
    int drawn(int seed, int n) {
        if (n < 0 || n > 40) return -2;
        if (n() < 2) return 0;
        List<int[]> row = new ArrayList<>();
        int z = seed;
        for (int i = 0; i < n; i++) {
            z = z * 1103515245 + 12345;
            row.add(new int[] {(z >>> 8) % (n() - 1), (z >>> 16) % 2});
        }
        return leftOf(row).size();
    }
    long chance(int seed, int many, int n, int most, int part) {
        if (many < 1 || many > 20 || n < 0 || n > 40 || most < 0 || most > 40 || part < 0 || part > 1)
            return -4611686018427387904L;
        int above = 0, below = many;
        for (int i = 0; i < many; i++) if (drawn(seed + i, n) <= most) above++;
        for (int d = 20; d > 1; d--) while (above % d == 0 && below % d == 0 && below > 1) { above /= d; below /= d; }
        return part == 0 ? above : below;
    }
    int image() {
        keptDogs = new int[n()][];
        for (int i = 0; i < n(); i++)
            keptDogs[i] = new int[] {dogs.get(i).pace, dogs.get(i).number, dogs.get(i).house};
        keptHand = new ArrayList<>(hand);
        keptPlait = new ArrayList<>(plait);
        keptRule = rule;
        return n();
    }
    int back() {
        if (keptDogs == null) return -3;
        while (n() > keptDogs.length) dogs.remove(n() - 1);
        for (int i = 0; i < n(); i++) {
            dogs.get(i).pace = keptDogs[i][0];
            dogs.get(i).number = keptDogs[i][1];
            dogs.get(i).house = keptDogs[i][2];
        }
        hand = new ArrayList<>(keptHand);
        plait = new ArrayList<>(keptPlait);
        rule = keptRule;
        return n();
    }
    int count(int what) {
        if (what < 0 || what > 5) return -2;
        return new int[] {n(), plait.size(), leftOf(plait).size(), texts.size(), tape.length(), rule}[what];
    }

    // ---- the host
    private int sort(int sheet) {
        Object s = sheets[sheet];
        return s instanceof byte[] ? 0 : s instanceof short[] ? 1 : s instanceof int[] ? 2 : -1;
    }
    private int size(int sheet) { return java.lang.reflect.Array.getLength(sheets[sheet]); }
    private int item(int sheet, int i) { return java.lang.reflect.Array.getInt(sheets[sheet], i); }
    int sheet(int sheet, int sort, int n) {
        if (sheet < 0 || sheet > 3 || sort < -1 || sort > 2) return -2;
        if (sort == -1) { sheets[sheet] = null; return 1; }
        if (n > 40) return -2;
        if (n < 0) return -14;
        sheets[sheet] = sort == 0 ? new byte[n] : sort == 1 ? new short[n] : new int[n];
        return 1;
    }
    int cell(int sheet, int i, int v) {
        if (sheet < 0 || sheet > 3) return -2;
        if (sheets[sheet] == null) return -11;
        if (i < 0 || i >= size(sheet)) return -12;
        Object s = sheets[sheet];
        if (s instanceof byte[]) ((byte[]) s)[i] = (byte) v;
        if (s instanceof short[]) ((short[]) s)[i] = (short) v;
        if (s instanceof int[]) ((int[]) s)[i] = v;
        return 1;
    }
    int copy(int sheet, int i, int other, int j, int n) {
        if (sheet < 0 || sheet > 3 || other < 0 || other > 3) return -2;
        if (sheets[sheet] == null || sheets[other] == null) return -11;
        if (sort(sheet) != sort(other)) return -13;
        if (n < 0 || i < 0 || j < 0 || (long) i + n > size(sheet) || (long) j + n > size(other)) return -12;
        List<Integer> were = items(sheet);
        for (int k = 0; k < n; k++) cell(other, j + k, were.get(i + k));
        return n;
    }
    int crossings(int sheet, int sort, int from, int n) {
        if (sheet < 0 || sheet > 3 || sort < 0 || sort > 2 || n < 0 || n > 20) return -2;
        if (sheets[sheet] == null) return -11;
        if (sort(sheet) != sort) return -13;
        int came = 0;
        for (long i = from; i < from + 2L * n; i += 2) {
            if (i < 0 || i + 1 >= size(sheet)) return -12;
            if (cross(item(sheet, (int) i), item(sheet, (int) i + 1)) > 0) came++;
        }
        return came;
    }
    int taken(int dog, int k) {
        if (k < 0 || k > 5) return -2;
        if (!isDog(dog)) return -11;
        return KINDS[k].isInstance(dogs.get(dog)) ? dogs.get(dog).number : -13;
    }
}
