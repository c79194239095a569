/** Edges of promises 18 to 20 and 23 to 29: orders, swaps, seen, fetching, walks, sets, drawn ones, chances. */
public final class OrderEdgeTests extends Edge {
    public static void main(String[] args) {
        atOdds();
        bestOrders();
        ordersOfSheets();
        swaps();
        seenBounds();
        seenRows();
        fetching();
        fetchedPlaces();
        walks();
        takes();
        takenByRule();
        drawnBounds();
        drawnByHand();
        drawnOfMore();
        chances();
        chancesThatWrap();
        finish();
    }

    private static void atOdds() {
        says("AT ODDS: odds of each two who are beside each other in THE HAND, together");
        for (int n = 0; n <= 1; n++) {
            is(many(n).atOdds(0), 0);
            is(many(n).atOdds(1), 0);
        }
        is(plain(1, 9).atOdds(0), 8);
        is(plain(1, 9).atOdds(1), 8);
        DogsOnLeads x = many(6);
        rule(x, "99", "0", "0");
        is(x.atOdds(0), 5 * 99);
        is(x.atOdds(1), 5 * 99);
        rule(x, "0-1", "0", "0");
        is(x.atOdds(0), 0);
        is(x.atOdds(1), 0);
        says("BAD: what");
        is(x.atOdds(-1), BAD);
        is(x.atOdds(2), BAD);
        is(many(0).atOdds(2), BAD);
    }

    private static void best(DogsOnLeads x, int... dogs) {
        for (int i = 0; i < dogs.length; i++) is(x.best(i), dogs[i]);
        is(x.best(dogs.length), BAD);
        is(x.best(-1), BAD);
    }

    private static void bestOrders() {
        says("BEST ORDER: the dog at a place. BAD");
        best(many(0));
        best(many(1), 0);
        is(many(6).best(LEAST_INT), BAD);
        is(many(6).best(MOST_INT), BAD);
        says("of like ones the first (by the dog at place 0, then 1, ..)");
        best(many(6), 0, 1, 2, 3, 4, 5);
        DogsOnLeads x = many(6);
        cross(x, 1, 0, 2, 4, 1, 3);
        best(x, 0, 1, 2, 3, 4, 5);
        best(plain(9, 1, 5), 0, 2, 1);
        best(plain(5, 9, 1), 1, 0, 2);
        best(plain(1, 9, 1, 9), 0, 2, 1, 3);
        says("the last of all orders");
        x = many(3);
        // In 2 1 0 alone the one of the lesser number never stands at place 0, nor 0 beside 2.
        rule(x, "50*(hand=0)+(one=0 and other=2)*50+one", "0", "0");
        is(x.atOdds(1), 1);
        best(x, 2, 1, 0);
        says("texts being told by it: hand and near are those of that order");
        x = many(3);
        rule(x, "(hand=0)*9+near", "0", "0");
        // 0 1 2: 10 and 1; all that begin with 0 come to 10 at least; 1 0 2: 1 and 1, as 0 is at 1.
        is(x.atOdds(0), 11);
        is(x.atOdds(1), 2);
        best(x, 1, 0, 2);
        cross(x, 1, 0);
        is(x.atOdds(0), 2);
        best(x, 1, 0, 2);
        says("THE HAND stays");
        hand(x, 1, 0, 2);
        says("texts being told by it: hand is the place of the first one in that order");
        x = many(2);
        rule(x, "9-hand*4", "0", "0");
        is(x.atOdds(0), 9);
        is(x.atOdds(1), 5);
        best(x, 1, 0);
        x = many(6);
        rule(x, "40-hand*8", "0", "0");
        // As they are numbered the first ones stand at 0 .. 4, turned round at 1 .. 5.
        is(x.atOdds(0), 40 + 32 + 24 + 16 + 8);
        is(x.atOdds(1), 32 + 24 + 16 + 8 + 0);
        best(x, 5, 4, 3, 2, 1, 0);
    }

    private static void ordersOfSheets() {
        says("SWAPS. BAD: SHEET; -11; BAD: its numbers aren't all dogs, each once");
        DogsOnLeads x = many(3);
        is(x.swaps(-1), BAD);
        is(x.swaps(4), BAD);
        is(x.swaps(LEAST_INT), BAD);
        is(x.swaps(MOST_INT), BAD);
        for (int sheet = 0; sheet <= 3; sheet++) {
            is(x.swaps(sheet), NOTHING);
            order(x, sheet, 0, 1, 2);
            is(x.swaps(sheet), 0);
            is(x.seen(sheet, 0, 0), 1);
            x.sheet(sheet, -1, 0);
            is(x.swaps(sheet), NOTHING);
        }
        int[][] none = {{}, {0}, {0, 1}, {0, 1, 2, 3}, {0, 1, 2, 2}, {0, 1, 1}, {0, 0, 0}, {1, 2, 3}, {0, 1, 3}, {-1, 0, 1},
            {0, 1, -1}, {0, 1, LEAST_INT}, {0, 1, MOST_INT}, {0, 1, 34}, {0, 1, 66}};
        for (int[] numbers : none) {
            order(x, 0, numbers);
            is(x.swaps(0), BAD);
            is(x.seen(0, 0, 0), BAD);
        }
        says("no dogs: a row of none tells their order");
        x = many(0);
        is(x.swaps(0), NOTHING);
        order(x, 0);
        is(x.swaps(0), 0);
        order(x, 0, 0);
        is(x.swaps(0), BAD);
    }

    private static void swaps() {
        says("SWAPS: how many CROSSINGS at least: none, one, the most");
        DogsOnLeads x = many(1);
        order(x, 0, 0);
        is(x.swaps(0), 0);
        x = many(6);
        order(x, 0, 0, 1, 2, 3, 4, 5);
        is(x.swaps(0), 0);
        order(x, 0, 0, 1, 2, 3, 5, 4);
        is(x.swaps(0), 1);
        order(x, 0, 5, 0, 1, 2, 3, 4);
        is(x.swaps(0), 5);
        order(x, 0, 1, 2, 3, 4, 5, 0);
        is(x.swaps(0), 5);
        order(x, 0, 5, 1, 2, 3, 4, 0);
        is(x.swaps(0), 9);
        order(x, 0, 5, 4, 3, 2, 1, 0);
        is(x.swaps(0), 15);
        says("from THE HAND's ORDER");
        cross(x, 1, 0, 1, 2, 3, 4);
        is(x.swaps(0), 10);
        order(x, 0, 1, 2, 3, 4, 5, 0);
        is(x.swaps(0), 0);
        says("by a SHEET of bytes, of shorts, of ints");
        for (int sort = 0; sort <= 2; sort++) {
            row(x, 1, sort, 1, 2, 3, 4, 0, 5);
            is(x.swaps(1), 1);
        }
    }

    private static void seenBounds() {
        says("SEEN: BAD, as of swaps(); -11; BAD: k (0 .. 4), what");
        DogsOnLeads x = many(3);
        is(x.seen(-1, 0, 0), BAD);
        is(x.seen(4, 0, 0), BAD);
        is(x.seen(4, 9, 9), BAD);
        is(x.seen(0, 0, 0), NOTHING);
        is(x.seen(0, -1, 0), NOTHING);
        is(x.seen(0, 5, 2), NOTHING);
        order(x, 0, 0, 1, 2);
        for (int what = 0; what <= 1; what++) {
            is(x.seen(0, -1, what), BAD);
            is(x.seen(0, 5, what), BAD);
            is(x.seen(0, LEAST_INT, what), BAD);
            is(x.seen(0, MOST_INT, what), BAD);
        }
        for (int k = 0; k <= 4; k++) {
            is(x.seen(0, k, -1), BAD);
            is(x.seen(0, k, 2), BAD);
        }
        says("rows of just k CROSSINGS: of none there is one");
        is(x.seen(0, 0, 0), 1);
        is(x.seen(0, 0, 1), 1);
        order(x, 0, 1, 0, 2);
        is(x.seen(0, 0, 0), 0);
        is(x.seen(0, 0, 1), 0);
        says("of no dogs, of one, of two");
        for (int n = 0; n <= 1; n++) {
            x = many(n);
            order(x, 0, n == 0 ? new int[] {} : new int[] {0});
            is(x.seen(0, 0, 0), 1);
            is(x.seen(0, 0, 1), 1);
            for (int k = 1; k <= 4; k++) {
                is(x.seen(0, k, 0), 0);
                is(x.seen(0, k, 1), 0);
            }
        }
        x = many(2);
        order(x, 0, 0, 1);
        int[] same = {1, 0, 4, 0, 16}, kept = {1, 0, 2, 0, 2};
        for (int k = 0; k <= 4; k++) {
            is(x.seen(0, k, 0), same[k]);
            is(x.seen(0, k, 1), kept[k]);
        }
        order(x, 0, 1, 0);
        int[] other = {0, 2, 0, 8, 0}, keptOther = {0, 2, 0, 2, 0};
        for (int k = 0; k <= 4; k++) {
            is(x.seen(0, k, 0), other[k]);
            is(x.seen(0, k, 1), keptOther[k]);
        }
    }

    private static void seenRows() {
        says("SEEN of six dogs by 4 CROSSINGS");
        DogsOnLeads x = many(6);
        order(x, 0, 0, 1, 2, 3, 4, 5);
        // Places a a b b (25), a b b a of unlike a, b (20), a b a b of two apart (12), each by 16.
        is(x.seen(0, 4, 0), 57 * 16);
        // Left are: a a a a: 2 of each of 5; a a b b: 4 of each of 20; a b b a: 8 of 8 near ones, 4 of 12 far ones;
        // a b a b: 4 of each of 12.
        is(x.seen(0, 4, 1), 10 + 80 + 64 + 48 + 48);
        says("the one row of places that leads there: over or under each");
        order(x, 0, 1, 2, 3, 4, 0, 5);
        is(x.seen(0, 4, 0), 16);
        is(x.seen(0, 4, 1), 16);
        is(x.seen(0, 3, 0), 0);
        says("more than 4 are needed");
        order(x, 0, 1, 2, 3, 4, 5, 0);
        is(x.seen(0, 4, 0), 0);
        says("from THE HAND's ORDER; THE HAND, THE PLAIT stay");
        x.cross(0, 1);
        is(x.seen(0, 4, 0), 16);
        hand(x, 1, 0, 2, 3, 4, 5);
        tangle(x, 1);
    }

    private static DogsOnLeads housed(int... houses) {
        DogsOnLeads x = new DogsOnLeads();
        for (int house : houses) x.dog(0, 10, house);
        return x;
    }

    private static void fetching() {
        says("FETCH: the way from 0 to their HOUSES, one behind the other, and back to 0");
        is(many(0).fetch(), 0);
        is(housed(0).fetch(), 0);
        is(housed(1).fetch(), 2);
        is(housed(99).fetch(), 198);
        is(housed(0, 0, 0, 0, 0, 0).fetch(), 0);
        is(housed(99, 99, 99, 99, 99, 99).fetch(), 198);
        is(housed(50, 1, 99, 0, 98, 51).fetch(), 198);
        is(housed(0, 99).fetch(), 198);
    }

    private static void fetched(DogsOnLeads x, int... dogs) {
        for (int i = 0; i < dogs.length; i++) is(x.fetched(i), dogs[i]);
        is(x.fetched(dogs.length), BAD);
        is(x.fetched(-1), BAD);
    }

    private static void fetchedPlaces() {
        says("Who is fetched in a place. BAD; of like ones the first");
        fetched(many(0));
        fetched(housed(99), 0);
        fetched(housed(7, 7, 7, 7, 7, 7), 0, 1, 2, 3, 4, 5);
        fetched(housed(5, 4, 3, 2, 1, 0), 0, 1, 2, 3, 4, 5);
        fetched(housed(0, 1, 2, 3, 4, 5), 0, 1, 2, 3, 4, 5);
        // Up by 50 or down by it: whom the way passes twice can be fetched on either part.
        fetched(housed(50, 99, 1), 0, 1, 2);
        fetched(housed(99, 50, 1), 0, 1, 2);
        fetched(housed(50, 1, 99), 0, 2, 1);
        fetched(housed(1, 99, 0, 50), 0, 1, 3, 2);
        fetched(housed(2, 1, 3), 0, 2, 1);
        is(housed(1).fetched(LEAST_INT), BAD);
        is(housed(1).fetched(MOST_INT), BAD);
        says("THE HAND does not matter to it, and stays");
        DogsOnLeads x = housed(50, 1, 99);
        cross(x, 1, 0, 1);
        fetched(x, 0, 2, 1);
        hand(x, 1, 2, 0);
    }

    private static void walks() {
        says("ODD WALK: of no two who are fetched one behind the other");
        is(many(0).walk(), 0);
        DogsOnLeads x = many(1);
        rule(x, "99", "0", "0");
        is(x.walk(), 0);
        says("the least that odds of each two come to together in any order");
        x.dog(0, 10, 0);
        is(x.walk(), 99);
        for (int i = 2; i < 6; i++) x.dog(0, 10, 0);
        is(x.walk(), 5 * 99);
        rule(x, "one-other", "0", "0");
        is(x.walk(), 0);
        // The way goes on from 5 by 4, 3, 2, 1 to 0.
        rule(x, "(other-one-1)*9", "0", "0");
        is(x.walk(), 0);
        is(plain(1, 9, 1, 9, 1, 9).walk(), 8);
        says("near: 1; hand as THE HAND is");
        x = many(3);
        rule(x, "near*10+hand", "0", "0");
        is(x.walk(), 20);
        cross(x, 1, 0, 1);
        // 0 at 2, 1 at 0: 0 and 1 are 12 at odds, 0 and 2 too, 1 and 2 are 10.
        is(x.walk(), 22);
        hand(x, 1, 2, 0);
    }

    private static void takes() {
        says("TAKE: of all sets of dogs (bits) that .. is most together; of like ones the least; how much");
        is(many(0).take(0), 0);
        is(many(0).take(1), 0);
        is(many(1).take(0), 0);
        is(many(1).take(1), 0);
        says("less 3 times PACE of each: as much as worth is nothing");
        DogsOnLeads x = many(2);
        rule(x, "0", "6", "0");
        is(x.take(0), 0);
        is(x.take(1), 0);
        rule(x, "0", "7", "0");
        is(x.take(0), 3);
        is(x.take(1), 1);
        rule(x, "0", "5", "0");
        is(x.take(0), 0);
        is(x.take(1), 0);
        says("all six, worth 99 each two");
        x = many(6);
        rule(x, "0", "99", "0");
        is(x.take(0), 63);
        is(x.take(1), 15 * 99 - 18);
        rule(x, "0", "0-99", "0");
        is(x.take(0), 0);
        is(x.take(1), 0);
        says("of like ones the least");
        rule(x, "0", "7*(one=4 or other=1)", "0");
        // 4 with 5, 0 with 1: each 7 less 6, both of them 2.
        is(x.take(1), 2);
        is(x.take(0), 1 + 2 + 16 + 32);
        rule(x, "0", "7*(one=0)-20*(one and other)", "0");
        is(x.take(1), 1);
        is(x.take(0), 3);
        rule(x, "0", "9*(one=0 and other<3)-6*(one=1 and other=2)", "0");
        // 0 with 1: 3; 0 with 2: 3; all three: 12 less 9.
        is(x.take(1), 3);
        is(x.take(0), 3);
        says("-100000: what");
        is(x.take(-1), NONE_SUCH);
        is(x.take(2), NONE_SUCH);
        is(many(0).take(2), NONE_SUCH);
    }

    private static void takenByRule() {
        says("worth of each two of them as THE HAND is, of however many dogs there are");
        DogsOnLeads x = many(4);
        rule(x, "0", "10*(near=1 and many=4 and hand=0)", "0");
        is(x.take(0), 3);
        is(x.take(1), 4);
        cross(x, 1, 0, 1, 2);
        // 1 2 3 0: 1 at 0 with 2 beside it.
        is(x.take(0), 6);
        hand(x, 1, 2, 3, 0);
    }

    private static void drawnBounds() {
        says("DRAWN: so many (0 .. 40) CROSSINGS. BAD");
        for (int n : new int[] {0, 1, 2, 6}) {
            DogsOnLeads x = many(n);
            for (int seed : new int[] {0, LEAST_INT, MOST_INT}) {
                is(x.drawn(seed, -1), BAD);
                is(x.drawn(seed, 41), BAD);
                is(x.drawn(seed, LEAST_INT), BAD);
                is(x.drawn(seed, MOST_INT), BAD);
                is(x.drawn(seed, 0), 0);
                is(x.drawn(seed, 1), n < 2 ? 0 : 1);
                if (n < 2) is(x.drawn(seed, 40), 0);
            }
        }
        says("in thought: of just these; THE HAND, THE PLAIT stay");
        DogsOnLeads x = many(3);
        x.cross(0, 1);
        is(x.drawn(7, 1), 1);
        hand(x, 1, 0, 2);
        tangle(x, 1);
    }

    private static void drawnByHand() {
        says("z = z * 1103515245 + 12345 (an int; SEED at first): over if (z >>> 16) % 2 is 1");
        DogsOnLeads x = many(2);
        // Of 0: 12345, then -740551042, that is 3554416254: by 65536 they are 0 and 54236, both even.
        is(x.drawn(0, 2), 2);
        for (int seed : new int[] {0, 1, -1, LEAST_INT, MOST_INT, 305419896}) {
            java.math.BigInteger z = java.math.BigInteger.valueOf(seed);
            int apart = 0;
            for (int n = 1; n <= 40; n++) {
                z = z.multiply(java.math.BigInteger.valueOf(1103515245)).add(java.math.BigInteger.valueOf(12345));
                apart += z.testBit(16) ? 1 : -1;
                // Of two dogs all are at place 0: an over and an under undo each other.
                is(x.drawn(seed, n), Math.abs(apart));
            }
        }
    }

    private static void drawnOfMore() {
        says("at (z >>> 8) % (n - 1)");
        for (int seed : new int[] {0, 5, -5, LEAST_INT, MOST_INT}) {
            DogsOnLeads x = many(3);
            java.util.ArrayDeque<Integer> left = new java.util.ArrayDeque<>();
            long z = seed;
            for (int n = 1; n <= 40; n++) {
                z = z * 1103515245L + 12345L & 0xFFFFFFFFL;
                int place = (int) (z / 256 % 2), over = (int) (z / 65536 % 2);
                // Of three dogs all are near each other: just the last one that is left can be met.
                if (!left.isEmpty() && left.peek() == 2 * place + 1 - over) left.pop();
                else left.push(2 * place + over);
                is(x.drawn(seed, n), left.size());
            }
        }
        says("DRAWN of six dogs, held against the same CROSSINGS that truly come");
        for (int seed : new int[] {0, 5, -5, LEAST_INT, MOST_INT}) {
            DogsOnLeads x = many(6);
            long z = seed;
            for (int n = 1; n <= 40; n++) {
                z = z * 1103515245L + 12345L & 0xFFFFFFFFL;
                x.cross((int) (z / 256 % 5), (int) (z / 65536 % 2));
                is(x.drawn(seed, n), x.count(2));
            }
        }
    }

    private static void chance(DogsOnLeads x, int seed, int many, int n, int most, int above, int below) {
        is(x.chance(seed, many, n, most, 0), above);
        is(x.chance(seed, many, n, most, 1), below);
    }

    private static void chances() {
        says("In how many of 1 .. 20 seeds: 1, 20, and beyond. NO: none such");
        DogsOnLeads x = many(2);
        for (int part = 0; part <= 1; part++) {
            is(x.chance(1, 0, 1, 1, part), NO);
            is(x.chance(1, 21, 1, 1, part), NO);
            is(x.chance(1, -1, 1, 1, part), NO);
            is(x.chance(1, LEAST_INT, 1, 1, part), NO);
            is(x.chance(1, MOST_INT, 1, 1, part), NO);
            says("DRAWN of 0 .. 40");
            is(x.chance(1, 1, -1, 1, part), NO);
            is(x.chance(1, 1, 41, 1, part), NO);
            is(x.chance(1, 1, MOST_INT, 1, part), NO);
            says("no more than most (0 .. 40)");
            is(x.chance(1, 1, 1, -1, part), NO);
            is(x.chance(1, 1, 1, 41, part), NO);
            is(x.chance(1, 1, 1, LEAST_INT, part), NO);
        }
        says("part 0, 1, else NO");
        is(x.chance(1, 1, 1, 1, -1), NO);
        is(x.chance(1, 1, 1, 1, 2), NO);
        is(many(0).chance(1, 0, 0, 0, 0), NO);
        says("in lowest terms: of none 0 and 1, of all 1 and 1");
        for (int many : new int[] {1, 2, 19, 20}) {
            chance(x, 5, many, 1, 0, 0, 1);
            chance(x, 5, many, 1, 1, 1, 1);
            chance(x, 5, many, 0, 0, 1, 1);
            chance(x, 5, many, 40, 40, 1, 1);
            chance(many(0), 5, many, 40, 0, 1, 1);
            chance(many(1), 5, many, 40, 0, 1, 1);
        }
        says("no more than most: as many as most, too");
        int left = x.drawn(3, 39);
        chance(x, 3, 1, 39, left, 1, 1);
        chance(x, 3, 1, 39, left - 1, 0, 1);
        says("in lowest terms: others");
        for (int many = 1; many <= 20; many++) {
            int above = 0, below = many;
            for (int seed = 0; seed < many; seed++) if (x.drawn(seed, 2) == 0) above++;
            for (int d = 2; d <= below; d++) {
                while (above % d == 0 && below % d == 0) {
                    above /= d;
                    below /= d;
                }
            }
            chance(x, 0, many, 2, 0, above, below);
        }
    }

    private static void chancesThatWrap() {
        says("SEED and each 1 more (an int)");
        DogsOnLeads x = many(6);
        for (int n : new int[] {2, 9, 40}) {
            for (int most = 0; most <= 24; most += 3) {
                int above = (x.drawn(MOST_INT, n) <= most ? 1 : 0) + (x.drawn(LEAST_INT, n) <= most ? 1 : 0);
                chance(x, MOST_INT, 2, n, most, above == 0 ? 0 : 1, above == 1 ? 2 : 1);
                above = (x.drawn(-1, n) <= most ? 1 : 0) + (x.drawn(0, n) <= most ? 1 : 0);
                chance(x, -1, 2, n, most, above == 0 ? 0 : 1, above == 1 ? 2 : 1);
            }
        }
        int above = 0;
        for (int i = 0; i < 19; i++) if (x.drawn(i < 10 ? MOST_INT - 9 + i : LEAST_INT - 10 + i, 10) <= 5) above++;
        is(above > 0 && above < 19 ? 1 : 0, 1);
        chance(x, MOST_INT - 9, 19, 10, 5, above, 19);
    }
}
