/** Edges of promises 9 to 17: crossings, what is left, the tangle's dogs, who is unclipped, cost. */
public final class PlaitEdgeTests extends Edge {
    /** Each of six dogs passes each other one once. */
    private static final int[] TURN = {0, 1, 2, 3, 4, 0, 1, 2, 3, 0, 1, 2, 0, 1, 0};

    public static void main(String[] args) {
        crossings();
        fullPlait();
        undone();
        whatIsLeft();
        whatStandsBetween();
        whatWasApart();
        told();
        combed();
        hands();
        who();
        whoKeepsDogs();
        withoutBounds();
        withoutPlaces();
        withoutNone();
        withoutWhenCombed();
        fewest();
        costs();
        finish();
    }

    private static void crossings() {
        says("at a place p (0 .. n - 2), over (1) or under (0); BAD");
        for (int n = 0; n <= 6; n++) {
            DogsOnLeads x = many(n);
            for (int over = 0; over <= 1; over++) {
                is(x.cross(-1, over), BAD);
                is(x.cross(n - 1, over), BAD);
                is(x.cross(n, over), BAD);
                is(x.cross(LEAST_INT, over), BAD);
                is(x.cross(MOST_INT, over), BAD);
            }
            is(x.count(1), 0);
            if (n < 2) {
                is(x.cross(0, 0), BAD);
                continue;
            }
            is(x.cross(0, -1), BAD);
            is(x.cross(0, 2), BAD);
            is(x.cross(0, LEAST_INT), BAD);
            is(x.cross(0, MOST_INT), BAD);
            is(x.cross(0, 0), 1);
            is(x.cross(0, 1), 2);
            is(x.cross(n - 2, 0), 3);
            is(x.cross(n - 2, 1), 4);
        }
        says("A CROSSING at p: those at p and p + 1 change places, no others");
        DogsOnLeads x = many(6);
        x.cross(4, 1);
        hand(x, 0, 1, 2, 3, 5, 4);
        x.cross(0, 0);
        hand(x, 1, 0, 2, 3, 5, 4);
    }

    private static void fullPlait() {
        says("CROSSINGS (40 at most); FULL");
        DogsOnLeads x = many(3);
        for (int i = 1; i <= 40; i++) is(x.cross(1, 1), i);
        is(x.cross(0, 1), FULL);
        is(x.cross(1, 0), FULL);
        is(x.count(1), 40);
        hand(x, 0, 1, 2);
        says("BAD ahead of FULL");
        is(x.cross(2, 1), BAD);
        is(x.cross(-1, 1), BAD);
        is(x.cross(0, 2), BAD);
        says("room again by undo, by comb");
        is(x.undo(), 39);
        is(x.cross(1, 0), 40);
        is(x.cross(0, 1), FULL);
        is(x.comb(), 2);
        is(x.cross(0, 1), 39);
    }

    private static void undone() {
        says("STATE: there is none");
        is(many(0).undo(), STATE);
        is(many(6).undo(), STATE);
        says("The last CROSSING is truly undone (those change places back): how many are left in THE PLAIT");
        DogsOnLeads x = many(3);
        x.cross(0, 1);
        is(x.undo(), 0);
        hand(x, 0, 1, 2);
        is(x.undo(), STATE);
        for (int i = 0; i < 40; i++) x.cross(i % 2, 1);
        for (int i = 39; i >= 0; i--) is(x.undo(), i);
        is(x.undo(), STATE);
        hand(x, 0, 1, 2);
        says("left in THE PLAIT, not in THE TANGLE");
        cross(x, 1, 0, 1, 1);
        x.cross(1, 0);
        is(x.undo(), 3);
        tangle(x, 1, 11, 11);
    }

    private static DogsOnLeads crossed(int... crossings) {
        DogsOnLeads x = many(6);
        for (int c : crossings) x.cross(c / 10, c % 10);
        return x;
    }

    private static void whatIsLeft() {
        says("WHAT IS LEFT of no CROSSINGS, of one");
        tangle(many(0));
        tangle(crossed());
        tangle(crossed(0), 0);
        tangle(crossed(1), 1);
        tangle(crossed(40), 40);
        tangle(crossed(41), 41);
        says("if that has its very place, and is the other sort (over, under), both are gone");
        tangle(crossed(0, 1));
        tangle(crossed(1, 0));
        tangle(crossed(41, 40));
        tangle(crossed(0, 0), 0, 0);
        tangle(crossed(1, 1), 1, 1);
        tangle(crossed(1, 0, 1), 1);
        tangle(crossed(1, 0, 0, 1));
        tangle(crossed(1, 1, 0), 1);
        tangle(crossed(1, 1, 0, 0));
        says("none of the 40 is gone; all are");
        int[] places = {0, 1, 2, 3, 4, 3, 2, 1};
        DogsOnLeads x = many(6);
        for (int i = 0; i < 40; i++) x.cross(places[i % 8], 1);
        is(x.count(2), 40);
        x = many(6);
        for (int i = 0; i < 20; i++) x.cross(places[i % 8], i % 3 == 0 ? 1 : 0);
        for (int i = 19; i >= 0; i--) {
            is(x.count(2), i + 1);
            x.cross(places[i % 8], i % 3 == 0 ? 0 : 1);
        }
        tangle(x);
        is(x.count(1), 40);
    }

    private static void whatStandsBetween() {
        says("the last one is looked for whose place is less than 2 from its own: 1 from it stands between");
        tangle(crossed(1, 11, 0), 1, 11, 0);
        tangle(crossed(11, 1, 10), 11, 1, 10);
        tangle(crossed(31, 41, 30), 31, 41, 30);
        tangle(crossed(41, 31, 40), 41, 31, 40);
        says("2 from it, and more, does not");
        tangle(crossed(1, 21, 0), 21);
        tangle(crossed(21, 1, 20), 1);
        tangle(crossed(1, 31, 41, 0), 31, 41);
        tangle(crossed(41, 1, 20, 40), 1, 20);
        says("the last of those is looked for, not one ahead of it");
        tangle(crossed(1, 21, 1, 0), 1, 21);
        tangle(crossed(1, 10, 31, 31, 0), 1, 10, 31, 31, 0);
        tangle(crossed(11, 20, 10), 11, 20, 10);
        says("else it is left, behind all others");
        tangle(crossed(1, 41, 20, 1), 1, 41, 20, 1);
        tangle(crossed(1, 41, 21, 1, 40), 1, 21, 1);
        tangle(crossed(41, 1), 41, 1);
    }

    private static void whatWasApart() {
        says("of those that are left by then: what is gone stands between no longer");
        tangle(crossed(1, 11, 10, 0));
        tangle(crossed(11, 1, 0, 10));
        tangle(crossed(1, 11, 10, 1), 1, 1);
        tangle(crossed(1, 11, 21, 20, 10, 0));
        tangle(crossed(1, 11, 21, 10, 20, 0), 1, 11, 21, 10, 20, 0);
        tangle(crossed(11, 1, 21, 20, 0, 10));
        tangle(crossed(11, 1, 21, 0, 10), 11, 21, 10);
        says("what is gone is no partner");
        tangle(crossed(1, 0, 0), 0);
        tangle(crossed(1, 0, 11, 0), 11, 0);
    }

    private static void told() {
        says("CROSSING i of THE TANGLE: 10 times its place, and 1 if over. NONE");
        DogsOnLeads x = crossed();
        is(x.left(0), NONE);
        is(x.left(-1), NONE);
        for (int c : new int[] {0, 11, 20, 31, 40}) x.cross(c / 10, c % 10);
        is(x.left(0), 0);
        is(x.left(4), 40);
        is(x.left(5), NONE);
        is(x.left(-1), NONE);
        is(x.left(LEAST_INT), NONE);
        is(x.left(MOST_INT), NONE);
        x = many(2);
        for (int i = 0; i < 40; i++) x.cross(0, 1);
        is(x.left(39), 1);
        is(x.left(40), NONE);
    }

    private static void combed() {
        says("THE PLAIT truly becomes THE TANGLE: how many CROSSINGS went: none there, none went, some, all");
        is(many(0).comb(), 0);
        is(many(6).comb(), 0);
        DogsOnLeads x = crossed(1, 11, 0);
        is(x.comb(), 0);
        is(x.count(1), 3);
        x = crossed(1, 21, 0);
        is(x.comb(), 2);
        is(x.count(1), 1);
        tangle(x, 21);
        hand(x, 0, 1, 3, 2, 4, 5);
        is(x.comb(), 0);
        x = many(2);
        for (int i = 0; i < 40; i++) x.cross(0, i % 2);
        is(x.comb(), 40);
        is(x.count(1), 0);
        hand(x, 0, 1);
        is(x.undo(), STATE);
        says("truly: the last one that is left is undone then");
        x = crossed(1, 31, 30, 11);
        is(x.comb(), 2);
        hand(x, 1, 2, 0, 3, 4, 5);
        is(x.undo(), 1);
        hand(x, 1, 0, 2, 3, 4, 5);
        is(x.undo(), 0);
        hand(x, 0, 1, 2, 3, 4, 5);
    }

    private static void hands() {
        says("The dog at a place of THE HAND. BAD");
        for (int n = 0; n <= 6; n++) {
            DogsOnLeads x = many(n);
            is(x.at(-1), BAD);
            is(x.at(n), BAD);
            is(x.at(LEAST_INT), BAD);
            is(x.at(MOST_INT), BAD);
            for (int i = 0; i < n; i++) is(x.at(i), i);
        }
        DogsOnLeads x = many(6);
        cross(x, 0, TURN);
        hand(x, 5, 4, 3, 2, 1, 0);
    }

    private static void who() {
        says("WHO: how many CROSSINGS of THE TANGLE are of two dogs; (a, a): 1 if a dog has any, else 0");
        DogsOnLeads x = many(3);
        for (int a = 0; a < 3; a++) for (int b = 0; b < 3; b++) is(x.who(a, b), 0);
        for (int i = 0; i < 40; i++) x.cross(0, 1);
        is(x.who(0, 1), 40);
        is(x.who(1, 0), 40);
        is(x.who(0, 0), 1);
        is(x.who(1, 1), 1);
        is(x.who(0, 2), 0);
        is(x.who(2, 1), 0);
        is(x.who(2, 2), 0);
        says("of THE TANGLE, not of THE PLAIT");
        x = many(2);
        x.cross(0, 1);
        is(x.who(0, 0), 1);
        x.cross(0, 0);
        is(x.who(0, 1), 0);
        is(x.who(0, 0), 0);
        says("BAD: a, b");
        for (int n : new int[] {0, 1, 6}) {
            x = many(n);
            is(x.who(-1, -1), BAD);
            is(x.who(n, n), BAD);
            is(x.who(-1, 0), BAD);
            is(x.who(0, -1), BAD);
            is(x.who(n, 0), BAD);
            is(x.who(0, n), BAD);
            is(x.who(LEAST_INT, 0), BAD);
            is(x.who(0, MOST_INT), BAD);
        }
    }

    private static void whoKeepsDogs() {
        says("A CROSSING is of the two dogs who changed places by it");
        DogsOnLeads x = many(6);
        cross(x, 1, TURN);
        for (int a = 0; a < 6; a++) for (int b = 0; b < 6; b++) is(x.who(a, b), 1);
        says("also when others are gone, and when THE PLAIT has become THE TANGLE");
        x = crossed(31, 1, 11, 30, 10, 11);
        tangle(x, 1, 11);
        for (int i = 0; i < 2; i++) {
            is(x.who(0, 1), 1);
            is(x.who(0, 2), 1);
            is(x.who(1, 2), 0);
            is(x.who(3, 3), 0);
            is(x.comb(), i == 0 ? 4 : 0);
        }
    }

    private static void withoutBounds() {
        says("dogs (bits): none, all, others");
        for (int n = 0; n <= 6; n++) {
            DogsOnLeads x = many(n);
            if (n > 1) x.cross(0, 1);
            int all = (1 << n) - 1;
            is(x.without(0), n > 1 ? 1 : 0);
            is(x.without(all), 0);
            is(x.without(-1), BAD);
            is(x.without(all + 1), BAD);
            is(x.without(LEAST_INT), BAD);
            is(x.without(MOST_INT), BAD);
        }
        says("CROSSINGS of THE PLAIT that are of any of some dogs (bits) are dropped");
        DogsOnLeads x = many(6);
        cross(x, 1, TURN);
        for (int set = 0; set < 64; set++) {
            int stay = 6 - Integer.bitCount(set);
            is(x.without(set), stay * (stay - 1) / 2);
        }
        x = many(2);
        for (int i = 0; i < 40; i++) x.cross(0, 0);
        is(x.without(0), 40);
        is(x.without(1), 0);
        is(x.without(2), 0);
    }

    private static void withoutPlaces() {
        says("the place of each other one is told among those who stay: unlike places become alike");
        // 1 and 2 change at 1; 0 passes both; they change back at 0.
        for (int back = 0; back <= 1; back++) {
            DogsOnLeads x = many(3);
            cross(x, 1, 1, 0, 1);
            x.cross(0, back);
            is(x.count(2), 4);
            is(x.without(0), 4);
            is(x.without(1), back == 0 ? 0 : 2);
        }
        says("like places become unlike");
        // 1 and 2 change at 1; 0 passes all; 1 and 3 change at 1, but without 0 they are one place on.
        DogsOnLeads x = many(4);
        cross(x, 1, 1, 0, 1, 2);
        x.cross(1, 0);
        is(x.without(1), 2);
        says("as it came: who passed later does not matter");
        x = many(3);
        cross(x, 1, 0, 1, 0);
        x.cross(1, 0);
        // 0 over 1, 0 over 2, 1 over 2, 1 under 0: among 0 and 1 the first and the last one undo each other.
        is(x.without(4), 0);
        is(x.without(1), 1);
        is(x.without(2), 1);
        says("of THE PLAIT, also when it has become THE TANGLE");
        x = many(4);
        cross(x, 1, 1, 0, 1, 2);
        x.cross(1, 0);
        x.cross(1, 1);
        x.cross(1, 0);
        is(x.without(1), 2);
        is(x.comb(), 2);
        is(x.without(1), 2);
        // 0 and 2 at 0, 0 and 3 at 1.
        is(x.without(2), 2);
    }

    private static void withoutNone() {
        says("without no dogs as many are left as of THE TANGLE");
        // 0 at place 0 stands ahead of the first one, and is of the second one.
        DogsOnLeads x = many(3);
        x.cross(1, 1);
        x.cross(0, 0);
        is(x.without(0), 2);
        x = many(6);
        for (int i = 0; i < 40; i++) {
            x.cross(i * i % 5, i / 3 % 2);
            is(x.without(0), x.count(2));
        }
    }

    private static void withoutWhenCombed() {
        says("the place is told as it came, also when those ahead of it went, and in THE IMAGE");
        // What is at 4 goes; then 1 and 2 change at 1, 0 passes both, 1 and 2 change back at 0.
        DogsOnLeads x = crossed(41, 11, 1, 11, 0, 40);
        tangle(x, 11, 1, 11, 0);
        is(x.without(1), 0);
        is(x.without(8), 4);
        x.image();
        is(x.comb(), 2);
        is(x.without(1), 0);
        is(x.without(8), 4);
        is(x.unclip(0), 1);
        x.back();
        is(x.without(1), 0);
        x.comb();
        x.image();
        for (int i = 0; i < 4; i++) x.undo();
        cross(x, 0, 4, 3, 2, 1);
        x.back();
        is(x.without(1), 0);
        is(x.without(8), 4);
    }

    private static void fewest() {
        says("FEWEST to be unclipped so that none is left: none are");
        for (int n : new int[] {0, 1, 6}) {
            is(many(n).unclip(0), 0);
            is(many(n).unclip(1), 0);
        }
        DogsOnLeads x = crossed(1, 0);
        is(x.unclip(0), 0);
        is(x.unclip(1), 0);
        says("of like ones the least as bits");
        x = crossed(41);
        is(x.unclip(0), 16);
        is(x.unclip(1), 1);
        x = crossed(1, 21, 41);
        is(x.unclip(0), 1 + 4 + 16);
        is(x.unclip(1), 3);
        says("fewer of them ahead of less as bits");
        x = crossed(41, 31, 21, 11, 1);
        is(x.unclip(0), 32);
        is(x.unclip(1), 1);
        says("all but one");
        x = many(6);
        cross(x, 1, TURN);
        is(x.unclip(0), 31);
        is(x.unclip(1), 5);
        is(x.count(0), 6);
        hand(x, 5, 4, 3, 2, 1, 0);
        x = many(2);
        x.cross(0, 0);
        is(x.unclip(0), 1);
        says("BAD: what");
        is(x.unclip(-1), BAD);
        is(x.unclip(2), BAD);
        is(many(0).unclip(2), BAD);
    }

    private static void costs() {
        says("COST: for each CROSSING of THE TANGLE minds of the two it is of, together: of none, of one, of 40");
        is(many(0).cost(), 0);
        is(many(6).cost(), 0);
        DogsOnLeads x = many(2);
        rule(x, "0", "0", "99");
        is(x.cost(), 0);
        for (int i = 1; i <= 40; i++) {
            x.cross(0, 1);
            is(x.cost(), 99 * i);
        }
        says("each bounded by itself");
        x = many(3);
        rule(x, "0", "0", "one*100+other*2-3");
        x.cross(0, 1);
        is(x.cost(), 0);
        x.cross(1, 1);
        is(x.cost(), 1);
        x.cross(0, 1);
        is(x.cost(), 100);
        says("of THE TANGLE, not of THE PLAIT");
        x.cross(0, 0);
        is(x.count(1), 4);
        is(x.cost(), 1);
        says("minds as THE HAND stands now");
        x = many(3);
        rule(x, "0", "0", "10*near+hand");
        x.cross(0, 1);
        is(x.cost(), 11);
        x.cross(1, 1);
        // 1 2 0: 0 and 1 are 2 apart, 0 and 2 are 1 apart, 0 at 2.
        is(x.cost(), 22 + 12);
    }
}
