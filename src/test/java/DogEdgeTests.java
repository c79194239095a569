/** Edges of promises 1 to 5, 21, 22 and 37: dogs, what is told of them, PULLS, SIDE, posts, kinds. */
public final class DogEdgeTests extends Edge {
    public static void main(String[] args) {
        aNewObject();
        calls();
        comingDogs();
        changedDogs();
        toldOfDogs();
        pulls();
        sides();
        posts();
        bestPosts();
        asked();
        taken();
        finish();
    }

    private static void aNewObject() {
        says("NONE is -1; NO -4611686018427387904; BAD (-2), STATE (-3), FULL (-4)");
        is(DogsOnLeads.NONE, NONE);
        is(DogsOnLeads.BAD, BAD);
        is(DogsOnLeads.STATE, STATE);
        is(DogsOnLeads.FULL, FULL);
        is(DogsOnLeads.NO, NO);
        says("A new object: No dogs");
        DogsOnLeads x = new DogsOnLeads();
        is(x.count(0), 0);
        is(x.told(0, 0), BAD);
        is(x.set(0, 0, 1), BAD);
        is(x.asks(0, 1, 0), NONE_SUCH);
        is(x.taken(0, 0), NOTHING);
        is(x.at(0), BAD);
        is(x.who(0, 0), BAD);
        is(x.best(0), BAD);
        is(x.fetched(0), BAD);
        is(x.undo(), STATE);
        is(x.comb(), 0);
        is(x.cost(), 0);
        is(x.atOdds(0), 0);
        is(x.atOdds(1), 0);
        is(x.fetch(), 0);
        is(x.walk(), 0);
        tangle(x);
        says("SHEETS 0 .. 3 are missing at first; TEXT 0 is there, at first THE RULE; no IMAGE, nothing on THE TAPE");
        for (int sheet = 0; sheet <= 3; sheet++) {
            is(x.swaps(sheet), NOTHING);
            is(x.cell(sheet, 0, 0), NOTHING);
        }
        is(x.count(3), 1);
        is(x.count(5), 0);
        is(x.count(4), 0);
        is(x.back(), STATE);
        says("objects are each for themselves");
        DogsOnLeads y = many(2);
        y.cross(0, 1);
        y.feed(1);
        y.sheet(0, 0, 1);
        is(x.count(0) + x.count(1) + x.count(4), 0);
        is(x.swaps(0), NOTHING);
    }

    private static void calls() {
        says("An object is used for at most 512 calls: the last of them is answered as the first");
        DogsOnLeads x = new DogsOnLeads();
        is(x.dog(0, 10, 0), 0);
        is(x.dog(0, 10, 0), 1);
        for (int i = 0; i < 254; i++) {
            is(x.cross(0, 1), 1);
            is(x.undo(), 0);
        }
        is(x.cross(0, 1), 1);
        is(x.at(0), 1);
    }

    private static void comingDogs() {
        says("KIND 0 .. 5");
        for (int kind = 0; kind <= 5; kind++) {
            DogsOnLeads x = new DogsOnLeads();
            is(x.dog(kind, 10, 0), 0);
            is(x.told(0, 3), kind);
        }
        is(many(0).dog(-1, 10, 0), BAD);
        is(many(0).dog(6, 10, 0), BAD);
        says("what: 10 times PACE (1 .. 9), and NUMBER (0 .. 9)");
        for (int what : new int[] {10, 19, 20, 90, 99}) {
            DogsOnLeads x = new DogsOnLeads();
            is(x.dog(0, what, 0), 0);
            is(x.told(0, 0), what / 10);
            is(x.told(0, 1), what % 10);
        }
        for (int what : new int[] {9, 0, -1, -10, -55, 100, 109, LEAST_INT, MOST_INT}) is(many(0).dog(0, what, 0), BAD);
        says("HOUSE 0 .. 99");
        for (int house : new int[] {0, 99}) {
            DogsOnLeads x = new DogsOnLeads();
            is(x.dog(0, 10, house), 0);
            is(x.told(0, 2), house);
        }
        is(many(0).dog(0, 10, -1), BAD);
        is(many(0).dog(0, 10, 100), BAD);
        says("DOGS (6 at most, numbered from 0); one who comes is put behind the others");
        DogsOnLeads x = new DogsOnLeads();
        for (int i = 0; i < 6; i++) {
            is(x.dog(0, 10, 0), i);
            is(x.count(0), i + 1);
            is(x.at(i), i);
        }
        is(x.dog(0, 10, 0), FULL);
        hand(x, 0, 1, 2, 3, 4, 5);
        says("BAD; STATE; FULL: the first of them");
        is(x.dog(0, 9, 0), BAD);
        x.cross(0, 1);
        is(x.dog(0, 10, 0), STATE);
        is(x.dog(6, 10, 0), BAD);
        is(x.dog(0, 100, 0), BAD);
        is(x.dog(0, 10, -1), BAD);
        says("STATE: THE PLAIT has any CROSSINGS (of it, not of THE TANGLE)");
        x = many(2);
        x.cross(0, 1);
        is(x.dog(0, 10, 0), STATE);
        x.cross(0, 0);
        is(x.count(2), 0);
        is(x.dog(0, 10, 0), STATE);
        x.comb();
        is(x.dog(0, 10, 0), 2);
        x.cross(1, 1);
        is(x.dog(0, 10, 0), STATE);
        x.undo();
        is(x.dog(0, 10, 0), 3);
        hand(x, 0, 1, 2, 3);
    }

    private static void changedDogs() {
        says("PACE (what 0), 1 .. 9, becomes v: what it was");
        DogsOnLeads x = new DogsOnLeads();
        x.dog(0, 55, 50);
        x.dog(0, 66, 60);
        int[][] bounds = {{1, 9}, {0, 9}, {0, 99}};
        for (int what = 0; what < 3; what++) {
            if (what == 1) says("NUMBER (1), 0 .. 9, becomes v: what it was");
            if (what == 2) says("HOUSE (2), 0 .. 99, becomes v: what it was");
            int least = bounds[what][0], most = bounds[what][1], was = x.told(0, what), others = x.told(1, what);
            is(x.set(0, what, least), was);
            is(x.told(0, what), least);
            is(x.set(0, what, most), least);
            is(x.set(0, what, most), most);
            is(x.set(0, what, least - 1), BAD);
            is(x.set(0, what, most + 1), BAD);
            is(x.set(0, what, LEAST_INT), BAD);
            is(x.set(0, what, MOST_INT), BAD);
            is(x.told(0, what), most);
            is(x.told(1, what), others);
            is(x.set(1, what, least), others);
            is(x.set(-1, what, least), BAD);
            is(x.set(2, what, least), BAD);
        }
        says("what 0 .. 2, else BAD");
        is(x.set(0, -1, 5), BAD);
        is(x.set(0, 3, 5), BAD);
        is(x.told(0, 3), 0);
    }

    private static void toldOfDogs() {
        says("0 PACE, 1 NUMBER, 2 HOUSE, 3 KIND, 4 its place, 5 PULLS there; BAD");
        DogsOnLeads x = new DogsOnLeads();
        x.dog(5, 99, 99);
        int[] first = {9, 9, 99, 5, 0, 36};
        for (int what = 0; what <= 5; what++) is(x.told(0, what), first[what]);
        for (int i = 1; i < 6; i++) x.dog(0, 10, 0);
        cross(x, 1, 0, 1, 2, 3, 4);
        int[] last = {9, 9, 99, 5, 5, 31};
        for (int what = 0; what <= 5; what++) is(x.told(0, what), last[what]);
        is(x.told(1, 4), 0);
        is(x.told(5, 4), 4);
        is(x.told(0, -1), BAD);
        is(x.told(0, 6), BAD);
        is(x.told(-1, 0), BAD);
        is(x.told(6, 0), BAD);
        is(x.told(5, 0), 1);
    }

    private static int pullsOf(int kind, int what, int place) {
        DogsOnLeads x = many(place);
        x.dog(kind, what, 0);
        return x.told(place, 5);
    }

    private static void pulls() {
        says("PULLS of a DOG: PACE");
        is(pullsOf(0, 10, 0), 1);
        is(pullsOf(0, 99, 5), 9);
        says("PULLER: NUMBER more than a DOG");
        is(pullsOf(1, 10, 0), 1);
        is(pullsOf(1, 10, 5), 1);
        is(pullsOf(1, 99, 5), 18);
        says("OLD: half (cut) of a DOG's");
        is(pullsOf(2, 10, 0), 0);
        is(pullsOf(2, 20, 0), 1);
        is(pullsOf(2, 39, 0), 1);
        is(pullsOf(2, 99, 5), 4);
        says("ROUND: q more than a PULLER");
        is(pullsOf(3, 10, 0), 1);
        is(pullsOf(3, 10, 5), 6);
        is(pullsOf(3, 99, 5), 23);
        says("CALM: 2 less than an OLD (0 at least, in the end)");
        is(pullsOf(4, 10, 0), 0);
        is(pullsOf(4, 39, 5), 0);
        is(pullsOf(4, 40, 0), 0);
        is(pullsOf(4, 50, 0), 0);
        is(pullsOf(4, 60, 0), 1);
        is(pullsOf(4, 99, 5), 2);
        says("YOUNG: twice a PULLER's, less q (0 at least, in the end)");
        is(pullsOf(5, 10, 0), 2);
        is(pullsOf(5, 10, 1), 1);
        is(pullsOf(5, 10, 2), 0);
        is(pullsOf(5, 10, 3), 0);
        is(pullsOf(5, 11, 5), 0);
        is(pullsOf(5, 12, 5), 1);
        is(pullsOf(5, 99, 0), 36);
        is(pullsOf(5, 99, 5), 31);
    }

    /** Whether a dog at a place among six passes a post on the right. */
    private static int side(int kind, int what, int place, int post) {
        DogsOnLeads x = many(place);
        x.dog(kind, what, 0);
        for (int i = place + 1; i < 6; i++) x.dog(0, 10, 0);
        return x.post(post, 0) >> place & 1;
    }

    private static void sides() {
        says("SIDE of a DOG: if q is s or more");
        is(side(0, 19, 0, 0), 1);
        is(side(0, 19, 0, 1), 0);
        is(side(0, 19, 2, 2), 1);
        is(side(0, 19, 2, 3), 0);
        is(side(0, 19, 5, 5), 1);
        is(side(0, 19, 5, 6), 0);
        says("PULLER: if q, and 1 if NUMBER is above 4, is s or more");
        is(side(1, 14, 2, 2), 1);
        is(side(1, 14, 2, 3), 0);
        is(side(1, 15, 2, 3), 1);
        is(side(1, 15, 2, 4), 0);
        is(side(1, 19, 2, 3), 1);
        is(side(1, 19, 2, 4), 0);
        is(side(1, 15, 5, 6), 1);
        is(side(1, 14, 5, 6), 0);
        is(side(1, 10, 0, 0), 1);
        is(side(1, 15, 0, 1), 1);
        says("OLD as a DOG");
        is(side(2, 19, 2, 2), 1);
        is(side(2, 19, 2, 3), 0);
        is(side(2, 19, 0, 1), 0);
        says("ROUND: no");
        is(side(3, 99, 0, 0), 0);
        is(side(3, 99, 5, 0), 0);
        says("CALM: as an OLD, or q is 0");
        is(side(4, 19, 0, 0), 1);
        is(side(4, 19, 0, 6), 1);
        is(side(4, 19, 1, 1), 1);
        is(side(4, 19, 1, 2), 0);
        is(side(4, 19, 5, 5), 1);
        is(side(4, 19, 5, 6), 0);
        says("YOUNG: turned round from a PULLER, if q is even");
        is(side(5, 14, 0, 0), 0);
        is(side(5, 14, 0, 1), 1);
        is(side(5, 15, 0, 1), 0);
        is(side(5, 15, 0, 2), 1);
        is(side(5, 14, 1, 1), 1);
        is(side(5, 14, 1, 2), 0);
        is(side(5, 15, 1, 2), 1);
        is(side(5, 15, 1, 3), 0);
        is(side(5, 14, 4, 4), 0);
        is(side(5, 14, 4, 5), 1);
        is(side(5, 15, 5, 6), 1);
        is(side(5, 14, 5, 6), 0);
    }

    private static void posts() {
        says("A POST at s (0 .. n); -100000: none such");
        for (int n : new int[] {0, 1, 6}) {
            DogsOnLeads x = many(n);
            for (int what = 0; what <= 2; what++) {
                is(x.post(-1, what), NONE_SUCH);
                is(x.post(n + 1, what), NONE_SUCH);
                is(x.post(LEAST_INT, what), NONE_SUCH);
                is(x.post(MOST_INT, what), NONE_SUCH);
            }
            is(x.post(0, -1), NONE_SUCH);
            is(x.post(0, 3), NONE_SUCH);
            is(x.post(0, 0), (1 << n) - 1);
            is(x.post(n, 0), 0);
            is(x.post(0, 1), 0);
            is(x.post(n, 1), 0);
            is(x.post(0, 2), n);
            is(x.post(n, 2), -n);
        }
        says("WOUND: pairs of which the one at the lesser place passes on the right, and the other one on the left");
        DogsOnLeads x = new DogsOnLeads();
        for (int i = 0; i < 6; i++) x.dog(i < 3 ? 0 : 3, 10, 0);
        is(x.post(0, 1), 9);
        is(x.post(1, 1), 6);
        is(x.post(3, 1), 0);
        x = new DogsOnLeads();
        for (int i = 0; i < 6; i++) x.dog(i < 3 ? 3 : 0, 10, 0);
        is(x.post(0, 1), 0);
        is(x.post(6, 1), 0);
        says("dogs (bits) on the right: of dogs, not of places");
        x = many(2);
        x.cross(0, 1);
        is(x.post(1, 0), 1);
        says("PULLS TOGETHER: PULLS of all dogs on the right, each at its place, less those of the others");
        x = new DogsOnLeads();
        for (int i = 0; i < 6; i++) x.dog(1, 99, 0);
        is(x.post(0, 2), 6 * 18);
        is(x.post(6, 2), 18 - 5 * 18);
        for (int i = 0; i < 6; i++) x.set(i, 1, 4);
        is(x.post(6, 2), -6 * 13);
        x = new DogsOnLeads();
        x.dog(4, 10, 0);
        is(x.post(0, 2), 0);
        is(x.post(1, 2), 0);
    }

    private static void bestPosts() {
        says("BEST POST: s by which fewest are WOUND; of like ones the least; BAD");
        is(many(0).bestPost(0), 0);
        is(many(0).bestPost(1), 0);
        is(many(1).bestPost(0), 0);
        is(many(6).bestPost(0), 0);
        is(many(6).bestPost(1), 0);
        // The puller of NUMBER 5 at 0 passes a post at 1 on the right too, the round one behind it never.
        DogsOnLeads x = new DogsOnLeads();
        x.dog(1, 15, 0);
        x.dog(3, 10, 0);
        is(x.bestPost(0), 2);
        is(x.bestPost(1), 0);
        x.set(0, 1, 4);
        is(x.bestPost(0), 1);
        // Calm at 0 is always on the right, round always on the left: all posts are alike.
        x = new DogsOnLeads();
        x.dog(4, 10, 0);
        x.dog(3, 10, 0);
        is(x.bestPost(0), 0);
        is(x.bestPost(1), 1);
        is(x.bestPost(-1), BAD);
        is(x.bestPost(2), BAD);
    }

    private static void asked() {
        says("Of two dogs odds (what 0), worth (1), minds (2) as they are; -100000: none such (alike, too)");
        DogsOnLeads x = plain(1, 9);
        is(x.asks(0, 1, 0), 8);
        is(x.asks(1, 0, 0), 8);
        is(x.asks(0, 1, 1), 2);
        is(x.asks(1, 0, 1), 2);
        is(x.asks(0, 1, 2), 1);
        is(x.asks(1, 0, 2), 1);
        for (int what = 0; what <= 2; what++) {
            is(x.asks(0, 0, what), NONE_SUCH);
            is(x.asks(1, 1, what), NONE_SUCH);
            is(x.asks(-1, 0, what), NONE_SUCH);
            is(x.asks(0, -1, what), NONE_SUCH);
            is(x.asks(2, 0, what), NONE_SUCH);
            is(x.asks(0, 2, what), NONE_SUCH);
            is(x.asks(7, 7, what), NONE_SUCH);
        }
        is(x.asks(0, 1, -1), NONE_SUCH);
        is(x.asks(0, 1, 3), NONE_SUCH);
        says("pace: how far their PACES are apart");
        x.set(0, 0, 9);
        is(x.asks(0, 1, 0), 0);
        x.set(1, 0, 1);
        is(x.asks(0, 1, 0), 8);
        says("one dog: there are no two");
        is(many(1).asks(0, 1, 0), NONE_SUCH);
        is(many(1).asks(0, 0, 0), NONE_SUCH);
    }

    private static void taken() {
        says("A dog taken for one of KIND k (0 .. 5), or one under that one (also by others between): its NUMBER; -13");
        DogsOnLeads x = new DogsOnLeads();
        for (int kind = 0; kind < 6; kind++) x.dog(kind, 10 + kind, 0);
        // Of each kind itself and those above it, as bits.
        int[] fits = {1, 1 + 2, 1 + 4, 1 + 2 + 8, 1 + 4 + 16, 1 + 2 + 32};
        for (int dog = 0; dog < 6; dog++)
            for (int k = 0; k < 6; k++) is(x.taken(dog, k), (fits[dog] >> k & 1) == 1 ? dog : OTHER_SORT);
        says("its NUMBER (0 .. 9) as it is");
        x.set(5, 1, 0);
        is(x.taken(5, 1), 0);
        x.set(5, 1, 9);
        is(x.taken(5, 1), 9);
        says("BAD: k; -11: no such dog; -13: the first of them");
        is(x.taken(0, -1), BAD);
        is(x.taken(0, 6), BAD);
        is(x.taken(6, 6), BAD);
        is(x.taken(-1, -1), BAD);
        is(x.taken(-1, 0), NOTHING);
        is(x.taken(6, 5), NOTHING);
        is(x.taken(0, 5), OTHER_SORT);
    }
}
