import java.lang.reflect.Method;
import java.util.Arrays;

/** Refusals change nothing: of each call each refusal, on objects that are empty, busy, full; nor do calls that only ask. */
public final class RefusalTests extends Edge {
    private static final int[] EXTREMES = {LEAST_INT, MOST_INT};
    /** Where an argument may be any int. */
    private static final int ANY = 1;

    private enum Kind { EMPTY, BUSY, FULL_HAND, FULL_TEXTS }

    private static final String[] UNTOUCHED = new String[Kind.values().length];

    public static void main(String[] args) throws ReflectiveOperationException {
        for (Kind kind : Kind.values()) UNTOUCHED[kind.ordinal()] = look(made(kind));
        lookSees();
        dogs();
        texts();
        plait();
        orders();
        houses();
        images();
        sheets();
        bySheets();
        extremes();
        asking();
        askingOneBehindTheOther();
        finish();
    }

    private static DogsOnLeads made(Kind kind) {
        switch (kind) {
            case BUSY:
                return busy();
            case FULL_HAND:
                return fullHand();
            case FULL_TEXTS:
                return fullTexts();
            default:
                return new DogsOnLeads();
        }
    }

    private static DogsOnLeads busy() {
        DogsOnLeads x = new DogsOnLeads();
        x.dog(1, 25, 30);
        x.dog(4, 61, 20);
        x.cross(0, 1);
        x.image();
        x.undo();
        x.dog(3, 17, 99);
        rule(x, "pace+7", "near", "hand");
        feed(x, "odds 1");
        order(x, 0, 2, 0, 1);
        row(x, 1, 0, 1, 0, 0, 1);
        row(x, 3, 1, 1, 2, 0);
        cross(x, 1, 0, 1);
        cross(x, 0, 1, 0);
        x.cross(1, 1);
        return x;
    }

    private static DogsOnLeads fullHand() {
        DogsOnLeads x = new DogsOnLeads();
        for (int i = 0; i < 6; i++) x.dog(i, 13 * (i + 1), 9 * i);
        x.sheet(2, 0, 40);
        x.cell(2, 1, 1);
        x.cell(2, 6, 4);
        x.crossings(2, 0, 0, 20);
        x.image();
        x.crossings(2, 0, 0, 20);
        return x;
    }

    private static DogsOnLeads fullTexts() {
        DogsOnLeads x = many(2);
        for (int i = 1; i <= 5; i++) rule(x, "" + i, "0", "0");
        for (int i = 0; i < 160; i++) x.feed(32 + i % 3);
        return x;
    }

    /** All that can be learnt of an object; it is worn out by it. */
    private static String look(DogsOnLeads x) {
        StringBuilder b = new StringBuilder("counts");
        for (int what = 0; what < 6; what++) b.append(' ').append(x.count(what));
        lookAtDogs(x, b);
        b.append("; left");
        for (int i = 0, n = x.count(2); i < n; i++) b.append(' ').append(x.left(i));
        for (int sheet = 0; sheet < 4; sheet++) {
            b.append("; sheet ").append(x.swaps(sheet)).append(' ').append(size(x, sheet));
        }
        for (int i = 0; i < 3; i++) {
            b.append("; undone ").append(x.undo());
            for (int place = 0; place < 3; place++) b.append(' ').append(x.at(place));
            for (int sheet = 0; sheet < 4; sheet++) b.append(' ').append(x.swaps(sheet));
        }
        b.append("; by sheets");
        for (int sheet = 0; sheet < 4; sheet++)
            for (int sort = 0; sort < 3; sort++)
                b.append(' ').append(x.crossings(sheet, sort, 0, 1)).append(' ').append(x.crossings(sheet, sort, 2, 1));
        b.append(' ').append(x.at(0)).append(x.at(1)).append(x.at(2)).append(x.count(1));
        for (int i = 0; i < 9; i++) b.append(' ').append(x.left(i));
        b.append("; texts ").append(x.text());
        for (int rule = 1; rule >= 0; rule--) {
            b.append(' ').append(x.force(rule));
            for (int what = 0; what < 3; what++) b.append(' ').append(x.asks(0, 1, what));
        }
        b.append("; back ").append(x.back()).append(' ').append(x.count(5)).append(' ').append(x.count(1));
        lookAtDogs(x, b);
        return b.toString();
    }

    private static void lookAtDogs(DogsOnLeads x, StringBuilder b) {
        for (int dog = 0; dog < x.count(0); dog++) {
            b.append("; dog");
            for (int what = 0; what < 5; what++) b.append(' ').append(x.told(dog, what));
            b.append(" at ").append(x.at(dog));
        }
    }

    private static int size(DogsOnLeads x, int sheet) {
        int n = x.copy(sheet, 0, sheet, 0, 40);
        for (int i = 0; n < 0 && i < 9; i++) if (x.copy(sheet, 0, sheet, 0, 8 - i) >= 0) return 8 - i;
        return n;
    }

    private static long call(DogsOnLeads x, String name, int... args) throws ReflectiveOperationException {
        Class<?>[] types = new Class<?>[args.length];
        Arrays.fill(types, int.class);
        Object[] values = Arrays.stream(args).boxed().toArray();
        Method m = DogsOnLeads.class.getMethod(name, types);
        return ((Number) m.invoke(x, values)).longValue();
    }

    private static void refused(Kind kind, long due, String name, int... args) throws ReflectiveOperationException {
        DogsOnLeads x = made(kind);
        is(call(x, name, args), due);
        same(look(x), UNTOUCHED[kind.ordinal()], kind + " " + name + Arrays.toString(args));
    }

    private static void asked(Kind kind, String name, int... args) throws ReflectiveOperationException {
        DogsOnLeads x = made(kind);
        long first = call(x, name, args);
        is(call(x, name, args), first);
        same(look(x), UNTOUCHED[kind.ordinal()], kind + " " + name + Arrays.toString(args));
    }

    private static void lookSees() throws ReflectiveOperationException {
        says("what is looked at shows each change (else the rows below would tell nothing)");
        Object[][] changes = {{"set", 0, 0, 9}, {"set", 1, 1, 9}, {"set", 2, 2, 9}, {"feed", 48}, {"text"}, {"force", 0},
            {"cross", 0, 1}, {"undo"}, {"comb"}, {"image"}, {"back"}, {"sheet", 0, 2, 3}, {"sheet", 0, 2, 4}, {"sheet", 0, 1, 3},
            {"sheet", 0, -1, 3}, {"sheet", 2, 0, 0}, {"cell", 0, 0, 0}, {"cell", 1, 0, 0}, {"cell", 1, 3, 0}, {"cell", 3, 2, 1},
            {"copy", 0, 0, 0, 1, 1}, {"crossings", 1, 0, 0, 1}};
        for (Object[] change : changes) {
            DogsOnLeads x = made(Kind.BUSY);
            int[] args = Arrays.stream(change, 1, change.length).mapToInt(o -> (Integer) o).toArray();
            call(x, (String) change[0], args);
            is(look(x).equals(UNTOUCHED[Kind.BUSY.ordinal()]) ? 1 : 0, 0);
        }
    }

    private static void dogs() throws ReflectiveOperationException {
        says("dog: BAD; STATE; FULL: they change nothing");
        int[][] bad = {{-1, 10, 0}, {6, 10, 0}, {0, 9, 0}, {0, 100, 0}, {0, 10, -1}, {0, 10, 100}};
        for (int[] args : bad) for (Kind kind : Kind.values()) refused(kind, BAD, "dog", args);
        refused(Kind.BUSY, STATE, "dog", 0, 10, 0);
        refused(Kind.FULL_HAND, STATE, "dog", 0, 10, 0);
        DogsOnLeads x = many(6);
        is(x.dog(5, 99, 99), FULL);
        same(look(x), look(many(6)), "FULL dog");
        says("set, told, asks, taken");
        int[][] badSet = {{-1, 0, 5}, {3, 0, 5}, {0, -1, 5}, {0, 3, 5}, {0, 0, 0}, {0, 0, 10}, {0, 1, -1}, {0, 1, 10},
            {0, 2, -1}, {0, 2, 100}};
        for (int[] args : badSet) refused(Kind.BUSY, BAD, "set", args);
        refused(Kind.EMPTY, BAD, "set", 0, 0, 5);
        for (int[] args : new int[][] {{-1, 0}, {3, 0}, {0, -1}, {0, 6}}) refused(Kind.BUSY, BAD, "told", args);
        for (int[] args : new int[][] {{0, 0, 0}, {0, 3, 0}, {-1, 0, 0}, {0, 1, 3}, {0, 1, -1}})
            refused(Kind.BUSY, NONE_SUCH, "asks", args);
        refused(Kind.BUSY, BAD, "taken", 0, 6);
        refused(Kind.BUSY, NOTHING, "taken", 3, 0);
        refused(Kind.BUSY, OTHER_SORT, "taken", 0, 2);
    }

    private static void texts() throws ReflectiveOperationException {
        says("feed: BAD; FULL. text: FULL (THE TAPE stays). force: BAD");
        for (Kind kind : Kind.values()) {
            refused(kind, BAD, "feed", -1);
            refused(kind, BAD, "feed", 256);
            refused(kind, BAD, "force", -1);
            refused(kind, BAD, "force", 6);
        }
        refused(Kind.FULL_TEXTS, FULL, "feed", 59);
        refused(Kind.FULL_TEXTS, FULL, "text");
        refused(Kind.BUSY, BAD, "force", 2);
        refused(Kind.EMPTY, BAD, "force", 1);
    }

    private static void plait() throws ReflectiveOperationException {
        says("cross: BAD; FULL. undo: STATE");
        for (int[] args : new int[][] {{-1, 0}, {5, 1}, {0, -1}, {0, 2}})
            for (Kind kind : Kind.values()) refused(kind, BAD, "cross", args);
        refused(Kind.BUSY, BAD, "cross", 2, 0);
        refused(Kind.FULL_HAND, FULL, "cross", 0, 0);
        refused(Kind.FULL_HAND, FULL, "cross", 4, 1);
        refused(Kind.EMPTY, STATE, "undo");
        refused(Kind.FULL_TEXTS, STATE, "undo");
        says("at, who, without, unclip: BAD. left: NONE");
        for (Kind kind : Kind.values()) {
            refused(kind, BAD, "at", -1);
            refused(kind, BAD, "at", 6);
            refused(kind, NONE, "left", -1);
            refused(kind, NONE, "left", 40);
            refused(kind, BAD, "who", 0, 6);
            refused(kind, BAD, "who", -1, 0);
            refused(kind, BAD, "without", 64);
            refused(kind, BAD, "without", -1);
            refused(kind, BAD, "unclip", 2);
            refused(kind, BAD, "unclip", -1);
        }
    }

    private static void orders() throws ReflectiveOperationException {
        says("atOdds, best, bestPost: BAD. post: -100000");
        for (Kind kind : Kind.values()) {
            refused(kind, BAD, "atOdds", 2);
            refused(kind, BAD, "best", 6);
            refused(kind, BAD, "best", -1);
            refused(kind, BAD, "bestPost", 2);
            refused(kind, NONE_SUCH, "post", -1, 0);
            refused(kind, NONE_SUCH, "post", 7, 0);
            refused(kind, NONE_SUCH, "post", 0, 3);
        }
        says("swaps, seen: BAD; -11; BAD");
        refused(Kind.BUSY, BAD, "swaps", 4);
        refused(Kind.BUSY, NOTHING, "swaps", 2);
        refused(Kind.BUSY, BAD, "swaps", 1);
        refused(Kind.BUSY, BAD, "seen", 4, 0, 0);
        refused(Kind.BUSY, NOTHING, "seen", 2, 5, 2);
        refused(Kind.BUSY, BAD, "seen", 1, 4, 0);
        refused(Kind.BUSY, BAD, "seen", 0, 5, 0);
        refused(Kind.BUSY, BAD, "seen", 0, 4, 2);
    }

    private static void houses() throws ReflectiveOperationException {
        says("fetched, drawn: BAD. take: -100000. chance: NO");
        for (Kind kind : Kind.values()) {
            refused(kind, BAD, "fetched", 6);
            refused(kind, NONE_SUCH, "take", 2);
            refused(kind, BAD, "drawn", 1, 41);
            refused(kind, BAD, "drawn", 1, -1);
            for (int[] args : new int[][] {{1, 0, 9, 9, 0}, {1, 21, 9, 9, 0}, {1, 9, 41, 9, 0}, {1, 9, 9, 41, 0}, {1, 9, 9, 9, 2}})
                refused(kind, NO, "chance", args);
        }
    }

    private static void images() throws ReflectiveOperationException {
        says("back: STATE. count: BAD");
        refused(Kind.EMPTY, STATE, "back");
        refused(Kind.FULL_TEXTS, STATE, "back");
        refused(Kind.BUSY, BAD, "count", 6);
        refused(Kind.BUSY, BAD, "count", -1);
    }

    private static void sheets() throws ReflectiveOperationException {
        says("sheet: BAD; -14");
        for (Kind kind : Kind.values()) {
            refused(kind, BAD, "sheet", 4, 0, 1);
            refused(kind, BAD, "sheet", -1, 0, 1);
            for (int sheet = 0; sheet <= 3; sheet++) {
                refused(kind, BAD, "sheet", sheet, 3, 1);
                refused(kind, BAD, "sheet", sheet, -2, 1);
                refused(kind, BAD, "sheet", sheet, 0, 41);
                refused(kind, BELOW_NOTHING, "sheet", sheet, 0, -1);
            }
        }
        says("cell: BAD; -11; -12");
        refused(Kind.BUSY, BAD, "cell", 4, 0, 1);
        refused(Kind.BUSY, NOTHING, "cell", 2, 0, 1);
        refused(Kind.BUSY, OUTSIDE, "cell", 0, 3, 1);
        refused(Kind.BUSY, OUTSIDE, "cell", 0, -1, 1);
        says("copy: BAD; -11; -13; -12");
        refused(Kind.BUSY, BAD, "copy", 4, 0, 0, 0, 1);
        refused(Kind.BUSY, BAD, "copy", 0, 0, 4, 0, 1);
        refused(Kind.BUSY, NOTHING, "copy", 0, 0, 2, 0, 1);
        refused(Kind.BUSY, NOTHING, "copy", 2, 0, 0, 0, 1);
        refused(Kind.BUSY, OTHER_SORT, "copy", 0, 0, 1, 0, 1);
        refused(Kind.BUSY, OTHER_SORT, "copy", 3, 0, 0, 0, 1);
        for (int[] args : new int[][] {{0, 0, 0, 1, 3}, {0, 1, 0, 0, 3}, {0, 0, 0, 0, 4}, {0, 0, 0, 1, -1}, {0, -1, 0, 0, 2}, {0, 0, 0, -1, 2}})
            refused(Kind.BUSY, OUTSIDE, "copy", args);
    }

    private static void bySheets() throws ReflectiveOperationException {
        says("crossings: BAD; -13; -11; -12 at once");
        for (Kind kind : Kind.values()) {
            refused(kind, BAD, "crossings", 4, 0, 0, 1);
            refused(kind, BAD, "crossings", 0, 3, 0, 1);
            refused(kind, BAD, "crossings", 0, -1, 0, 1);
            refused(kind, BAD, "crossings", 0, 0, 0, 21);
            refused(kind, BAD, "crossings", 0, 0, 0, -1);
        }
        refused(Kind.BUSY, OTHER_SORT, "crossings", 1, 1, 0, 1);
        refused(Kind.BUSY, NOTHING, "crossings", 2, 0, 0, 1);
        refused(Kind.BUSY, OUTSIDE, "crossings", 1, 0, 3, 1);
        refused(Kind.BUSY, OUTSIDE, "crossings", 1, 0, -1, 1);
        refused(Kind.BUSY, OUTSIDE, "crossings", 1, 0, 4, 1);
    }

    private static void extreme(String name, int[] args, long... dues) throws ReflectiveOperationException {
        for (int i = 0; i < args.length; i++) {
            if (dues[i] == ANY) continue;
            for (int v : EXTREMES) {
                int[] extreme = args.clone();
                extreme[i] = v;
                refused(Kind.BUSY, dues[i], name, extreme);
            }
        }
        // All at once: whatever is answered, nothing is thrown, and nothing changes.
        for (int v : EXTREMES) {
            int[] all = new int[args.length];
            Arrays.fill(all, v);
            DogsOnLeads x = made(Kind.BUSY);
            is(call(x, name, all) < 0 ? 1 : 0, 1);
            same(look(x), UNTOUCHED[Kind.BUSY.ordinal()], name + Arrays.toString(all));
        }
    }

    private static int[] row(int... numbers) { return numbers; }

    private static void extremes() throws ReflectiveOperationException {
        says("the least and the greatest int in each place of each call");
        extreme("dog", row(0, 10, 0), BAD, BAD, BAD);
        extreme("set", row(0, 0, 5), BAD, BAD, BAD);
        extreme("told", row(0, 0), BAD, BAD);
        extreme("asks", row(0, 1, 0), NONE_SUCH, NONE_SUCH, NONE_SUCH);
        extreme("feed", row(1), BAD);
        extreme("force", row(1), BAD);
        extreme("cross", row(0, 1), BAD, BAD);
        extreme("at", row(0), BAD);
        extreme("left", row(0), NONE);
        extreme("who", row(0, 1), BAD, BAD);
        extreme("without", row(0), BAD);
        extreme("unclip", row(0), BAD);
        extreme("atOdds", row(0), BAD);
        extreme("best", row(0), BAD);
        extreme("swaps", row(0), BAD);
        extreme("post", row(0, 0), NONE_SUCH, NONE_SUCH);
        extreme("bestPost", row(0), BAD);
        extreme("seen", row(0, 0, 0), BAD, BAD, BAD);
        extreme("fetched", row(0), BAD);
        extreme("take", row(0), NONE_SUCH);
        extreme("drawn", row(0, 1), ANY, BAD);
        extreme("chance", row(0, 1, 1, 1, 0), ANY, NO, NO, NO, NO);
        extreme("count", row(0), BAD);
        extreme("sheet", row(0, 0, 1), BAD, BAD, ANY);
        extreme("cell", row(0, 0, 1), BAD, OUTSIDE, ANY);
        extreme("copy", row(0, 0, 0, 0, 1), BAD, OUTSIDE, BAD, OUTSIDE, OUTSIDE);
        extreme("crossings", row(1, 0, 0, 1), BAD, BAD, OUTSIDE, BAD);
        extreme("taken", row(0, 0), NOTHING, BAD);
        refused(Kind.BUSY, BELOW_NOTHING, "sheet", 0, 0, LEAST_INT);
        refused(Kind.BUSY, BAD, "sheet", 0, 0, MOST_INT);
    }

    private static void asking() throws ReflectiveOperationException {
        says("what only asks is in thought: it changes nothing, and answers alike again");
        for (Kind kind : new Kind[] {Kind.BUSY, Kind.FULL_HAND}) {
            for (String name : new String[] {"cost", "fetch", "walk"}) asked(kind, name);
            for (int what = 0; what <= 1; what++) {
                for (String name : new String[] {"unclip", "atOdds", "best", "bestPost", "fetched", "take", "at", "left"})
                    asked(kind, name, what);
                asked(kind, "seen", 0, 4, what);
                asked(kind, "seen", 3, 2, what);
                asked(kind, "chance", 77, 20, 40, 8, what);
                asked(kind, "who", 0, what);
            }
            for (int what = 0; what <= 2; what++) {
                asked(kind, "post", 1, what);
                asked(kind, "asks", 0, 1, what);
            }
            for (int what = 0; what <= 5; what++) {
                asked(kind, "told", 0, what);
                asked(kind, "count", what);
            }
            for (int set = 0; set < 8; set++) asked(kind, "without", set);
            for (int sheet = 0; sheet < 4; sheet++) asked(kind, "swaps", sheet);
            asked(kind, "drawn", 99, 40);
            asked(kind, "taken", 0, 0);
        }
    }

    private static void askingOneBehindTheOther() throws ReflectiveOperationException {
        says("what was asked before does not matter to what is asked");
        String[] names = {"unclip", "atOdds", "best", "bestPost", "fetched", "take"};
        String[] bare = {"cost", "fetch", "walk"};
        for (Kind kind : new Kind[] {Kind.BUSY, Kind.FULL_HAND}) {
            DogsOnLeads x = made(kind);
            for (String first : bare) {
                for (String name : names) {
                    is(call(x, first), call(made(kind), first));
                    is(call(x, name, 1), call(made(kind), name, 1));
                    is(call(x, name, 0), call(made(kind), name, 0));
                    is(x.count(2), made(kind).count(2));
                    is(x.drawn(3, 40), made(kind).drawn(3, 40));
                    is(x.without(1), made(kind).without(1));
                }
            }
        }
    }
}
