import java.util.ArrayList;
import java.util.List;
import java.util.Random;

/** Drawn runs of calls, each answer held against PlainModel's; the seeds are fixed, so each run is always the same. */
public final class ModelTests {
    private static final int MOST_CALLS = 512;
    private static int wrong = 0;

    private final Random random;
    private final int run;
    private final DogsOnLeads real = new DogsOnLeads();
    private final PlainModel model = new PlainModel();
    private final StringBuilder said = new StringBuilder();
    private int calls = 0;

    private ModelTests(int run) {
        this.run = run;
        random = new Random(run);
    }

    public static void main(String[] args) {
        for (int run = 0; run < 400; run++) new ModelTests(run).mixedRun();
        for (int run = 1000; run < 9000; run++) new ModelTests(run).textRun();
        for (int run = 10000; run < 10300; run++) new ModelTests(run).plaitRun();
        for (int run = 20000; run < 20200; run++) new ModelTests(run).hostRun();
        System.out.println(wrong == 0 ? "all answers are as the model's" : wrong + " answers are not as the model's");
        if (wrong != 0) System.exit(1);
    }

    private boolean hasRoom() { return calls < MOST_CALLS; }

    private long due(String call, long got, long want) {
        calls++;
        said.append(call).append(" -> ").append(got).append('\n');
        if (got != want && wrong++ < 5)
            System.out.println("run " + run + ":\n" + said + "the last is due to be " + want + "\n");
        return want;
    }

    private int below(int n) { return random.nextInt(n); }

    /** Mostly within least .. most, now and then a little or far outside. */
    private int around(int least, int most) {
        int draw = below(40);
        if (draw == 0) return least - 1;
        if (draw == 1) return most + 1;
        if (draw == 2) return random.nextInt();
        if (draw == 3) return below(2) == 0 ? Integer.MAX_VALUE : Integer.MIN_VALUE;
        return most < least ? least : least + below(most - least + 1);
    }

    private int someDog() { return around(0, Math.max(0, model.dogs.size() - 1)); }

    // ---- runs

    private void mixedRun() {
        int dogs = below(7);
        for (int i = 0; i < dogs; i++) dog();
        if (below(2) == 0) newRule();
        int wanted = 60 + below(150);
        while (hasRoom() && calls < wanted) anyCall();
    }

    private void textRun() {
        int dogs = 2 + below(4);
        for (int i = 0; i < dogs; i++) dog();
        if (model.dogs.size() > 1) cross();
        newRule();
        for (int i = 0; i < 6; i++) asks();
        due("count(4)", real.count(4), model.count(4));
    }

    private void plaitRun() {
        int dogs = 2 + below(5);
        for (int i = 0; i < dogs; i++) dog();
        if (below(2) == 0) newRule();
        while (hasRoom() && calls < 330) {
            int draw = below(30);
            if (draw < 18) cross();
            else if (draw < 20) due("undo()", real.undo(), model.undo());
            else if (draw == 20) due("comb()", real.comb(), model.comb());
            else askPlait();
        }
        for (int set = 0; hasRoom() && set < 1 << model.dogs.size(); set++)
            due("without(" + set + ")", real.without(set), model.without(set));
        for (int i = 0; hasRoom() && i <= 40; i++) due("left(" + i + ")", real.left(i), model.left(i));
    }

    private void hostRun() {
        int dogs = below(7);
        for (int i = 0; i < dogs; i++) dog();
        while (hasRoom() && calls < 400) {
            int draw = below(20);
            if (draw < 17) askHost();
            else if (draw == 17) newOrder(below(4));
            else if (draw == 18) cross();
            else due("count(1)", real.count(1), model.count(1));
        }
    }

    // ---- calls

    private void anyCall() {
        switch (below(12)) {
            case 0: changeDogs(); break;
            case 1: case 2: cross(); break;
            case 3: case 4: askPlait(); break;
            case 5: case 6: askOrders(); break;
            case 7: askHouses(); break;
            case 8: askHost(); break;
            case 9: images(); break;
            case 10: if (below(8) == 0) newRule(); else asks(); break;
            default: look(); break;
        }
    }

    private void dog() {
        int kind = around(0, 5), what = around(10, 99), house = around(0, 99);
        if (below(3) == 0 && house > 9) house = house / 30;
        due("dog(" + kind + ", " + what + ", " + house + ")", real.dog(kind, what, house), model.dog(kind, what, house));
    }

    private void changeDogs() {
        if (below(3) == 0) {
            dog();
            return;
        }
        int dog = someDog(), what = around(0, 2), v = what == 0 ? around(1, 9) : what == 1 ? around(0, 9) : around(0, 99);
        due("set(" + dog + ", " + what + ", " + v + ")", real.set(dog, what, v), model.set(dog, what, v));
    }

    private void asks() {
        int a = someDog(), b = someDog(), what = around(0, 2);
        due("asks(" + a + ", " + b + ", " + what + ")", real.asks(a, b, what), model.asks(a, b, what));
    }

    private void cross() {
        int p = around(0, Math.max(0, model.dogs.size() - 2)), over = around(0, 1);
        // Crossings that undo an earlier one are what the tangle is about.
        if (below(3) == 0 && !model.plait.isEmpty()) {
            int[] c = model.plait.get(model.plait.size() - 1 - below(Math.min(4, model.plait.size())));
            p = c[0];
            over = 1 - c[1];
        }
        due("cross(" + p + ", " + over + ")", real.cross(p, over), model.cross(p, over));
    }

    private void askPlait() {
        int a = someDog(), b = below(4) == 0 ? a : someDog();
        switch (below(9)) {
            case 0: due("undo()", real.undo(), model.undo()); break;
            case 1: if (below(4) == 0) due("comb()", real.comb(), model.comb()); break;
            case 2: int place = around(0, 5); due("at(" + place + ")", real.at(place), model.at(place)); break;
            case 3: int i = around(0, 12); due("left(" + i + ")", real.left(i), model.left(i)); break;
            case 4: case 5: due("who(" + a + ", " + b + ")", real.who(a, b), model.who(a, b)); break;
            case 6:
                int set = around(0, (1 << model.dogs.size()) - 1);
                due("without(" + set + ")", real.without(set), model.without(set));
                break;
            case 7: int what = around(0, 1); due("unclip(" + what + ")", real.unclip(what), model.unclip(what)); break;
            default: due("cost()", real.cost(), model.cost()); break;
        }
    }

    private void askOrders() {
        int what = around(0, 1), place = around(0, 5), s = around(0, model.dogs.size()), sheet = around(0, 3);
        switch (below(9)) {
            case 0: due("atOdds(" + what + ")", real.atOdds(what), model.atOdds(what)); break;
            case 1: due("best(" + place + ")", real.best(place), model.best(place)); break;
            case 2: newOrder(below(4)); break;
            case 3: due("swaps(" + sheet + ")", real.swaps(sheet), model.swaps(sheet)); break;
            case 4: case 5:
                int sort = around(0, 2);
                due("post(" + s + ", " + sort + ")", real.post(s, sort), model.post(s, sort));
                break;
            case 6: due("bestPost(" + what + ")", real.bestPost(what), model.bestPost(what)); break;
            default:
                int k = around(0, below(6) == 0 ? 4 : 3);
                due("seen(" + sheet + ", " + k + ", " + what + ")", real.seen(sheet, k, what), model.seen(sheet, k, what));
                break;
        }
    }

    private void askHouses() {
        int what = around(0, 1), place = around(0, 5), seed = random.nextInt(), n = around(0, 40);
        switch (below(6)) {
            case 0: due("fetch()", real.fetch(), model.fetch()); break;
            case 1: due("fetched(" + place + ")", real.fetched(place), model.fetched(place)); break;
            case 2: due("walk()", real.walk(), model.walk()); break;
            case 3: due("take(" + what + ")", real.take(what), model.take(what)); break;
            case 4: due("drawn(" + seed + ", " + n + ")", real.drawn(seed, n), model.drawn(seed, n)); break;
            default:
                int many = around(1, 20), most = around(0, below(2) == 0 ? 40 : 10), part = around(0, 1);
                if (below(5) == 0) seed = Integer.MAX_VALUE - below(20);
                due("chance(" + seed + ", " + many + ", " + n + ", " + most + ", " + part + ")",
                        real.chance(seed, many, n, most, part), model.chance(seed, many, n, most, part));
                break;
        }
    }

    private void images() {
        int draw = below(6);
        if (draw == 0) due("image()", real.image(), model.image());
        else if (draw == 1) due("back()", real.back(), model.back());
        else if (draw == 2) {
            int text = around(0, model.texts.size() - 1);
            due("force(" + text + ")", real.force(text), model.force(text));
        } else look();
    }

    private void look() {
        int dog = someDog(), what = around(0, 5);
        if (below(2) == 0) due("told(" + dog + ", " + what + ")", real.told(dog, what), model.told(dog, what));
        else due("count(" + what + ")", real.count(what), model.count(what));
    }

    /** A sheet that tells an order, mostly near the hand's. */
    private void newOrder(int sheet) {
        List<Integer> order = new ArrayList<>(model.hand);
        for (int i = below(4); i > 0 && order.size() > 1; i--)
            java.util.Collections.swap(order, i % (order.size() - 1), i % (order.size() - 1) + 1);
        int sort = below(3), n = order.size();
        due("sheet(" + sheet + ", " + sort + ", " + n + ")", real.sheet(sheet, sort, n), model.sheet(sheet, sort, n));
        for (int i = 0; i < n; i++) {
            int v = order.get(i) + (sort == 0 && below(6) == 0 ? 256 * below(1000) : 0) + (below(60) == 0 ? 1 : 0);
            due("cell(" + sheet + ", " + i + ", " + v + ")", real.cell(sheet, i, v), model.cell(sheet, i, v));
        }
    }

    private void askHost() {
        int sheet = around(0, 3), other = around(0, 3), sort = around(0, 2);
        switch (below(9)) {
            case 0:
                int kind = below(8) == 0 ? -1 : sort, size = around(0, below(2) == 0 ? 40 : 12);
                due("sheet(" + sheet + ", " + kind + ", " + size + ")",
                        real.sheet(sheet, kind, size), model.sheet(sheet, kind, size));
                break;
            case 1: case 2: case 3:
                int i = around(0, 14), v = below(5) == 0 ? random.nextInt() : around(0, 3);
                due("cell(" + sheet + ", " + i + ", " + v + ")", real.cell(sheet, i, v), model.cell(sheet, i, v));
                break;
            case 4: case 5:
                int from = around(0, 12), to = around(0, 12), n = around(0, 8);
                due("copy(" + sheet + ", " + from + ", " + other + ", " + to + ", " + n + ")",
                        real.copy(sheet, from, other, to, n), model.copy(sheet, from, other, to, n));
                break;
            case 6: case 7:
                int first = around(0, 8), many = around(0, below(3) == 0 ? 20 : 4);
                due("crossings(" + sheet + ", " + sort + ", " + first + ", " + many + ")",
                        real.crossings(sheet, sort, first, many), model.crossings(sheet, sort, first, many));
                if (below(3) == 0) due("undo()", real.undo(), model.undo());
                break;
            default:
                int dog = someDog(), k = around(0, 5);
                due("taken(" + dog + ", " + k + ")", real.taken(dog, k), model.taken(dog, k));
                break;
        }
    }

    // ---- texts

    private void newRule() {
        String text = drawnText();
        if (calls + text.length() + 4 > MOST_CALLS) return;
        for (int i = 0; i < text.length(); i++)
            due("feed(" + (int) text.charAt(i) + ")", real.feed(text.charAt(i)), model.feed(text.charAt(i)));
        said.append("which is: ").append(text.replace('\n', '~')).append('\n');
        long number = due("text()", real.text(), model.text());
        if (number >= 0) due("force(" + number + ")", real.force((int) number), model.force((int) number));
    }

    private String drawnText() {
        StringBuilder b = new StringBuilder();
        for (String key : new String[] {"odds", "worth", "minds"}) {
            b.append(blank(true)).append(key).append(blank(true));
            expression(b, 0);
            b.append(blank(false)).append(';');
        }
        b.append(blank(false));
        if (below(2) == 0) mutate(b);
        if (b.length() > 160) b.setLength(160);
        return b.toString();
    }

    private String blank(boolean must) {
        int draw = below(8);
        return draw == 0 ? "\n" : draw == 1 ? "  " : must || draw == 2 ? " " : "";
    }

    private void expression(StringBuilder b, int depth) {
        int draw = below(depth > 6 ? 4 : 14);
        String[] words = {"one", "other", "pace", "near", "many", "hand"};
        if (draw < 2) {
            b.append(words[below(6)]);
        } else if (draw < 4) {
            b.append(below(3) == 0 ? below(10000) : below(12));
        } else if (draw < 6) {
            b.append(blank(false)).append('(').append(blank(false));
            expression(b, depth + 1);
            b.append(blank(false)).append(')');
        } else if (draw == 6) {
            b.append('-').append(blank(false));
            expression(b, depth + 1);
        } else if (draw == 7) {
            b.append(" not ");
            expression(b, depth + 1);
        } else {
            String[] signs = {"+", "-", "*", "<", "=", " or ", " and ", " + ", "* ", " -"};
            expression(b, depth + 1);
            b.append(signs[below(signs.length)]);
            expression(b, depth + 1);
        }
    }

    private void mutate(StringBuilder b) {
        String[] bits = {"(", ")", ";", "+", "-", "*", "<", "=", "x", "odds", "minds", "or ", " and ", " not ", "12345",
            "0000", "00000", "\t", "A", " ", "1", "" + (char) 255, "" + (char) 0, "{", "`", "/", ":", "((((((", "------"};
        for (int i = 1 + below(2); i > 0 && b.length() > 0; i--) {
            int at = below(b.length());
            int draw = below(3);
            if (draw == 0) b.deleteCharAt(at);
            else if (draw == 1) b.insert(at, bits[below(bits.length)]);
            else b.setLength(at);
        }
    }
}
