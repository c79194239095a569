/** Edges of promises 30 to 36: the image, counts, sheets, cells, copies, crossings by a sheet. */
public final class HostEdgeTests extends Edge {
    public static void main(String[] args) {
        noImage();
        imageOfAll();
        imageOfFewer();
        imageStays();
        whatNoImageKeeps();
        counts();
        sheetBounds();
        sheetsAnew();
        cells();
        lowestBits();
        copyBounds();
        copies();
        crossingBounds();
        crossingsOutside();
        crossingsLeftOut();
        finish();
    }

    private static void noImage() {
        says("STATE: there is none");
        DogsOnLeads x = many(3);
        is(x.back(), STATE);
        is(x.back(), STATE);
        is(x.count(0), 3);
        says("AN IMAGE is kept: how many dogs: 0 .. 6");
        for (int n = 0; n <= 6; n++) {
            x = many(n);
            is(x.image(), n);
            is(x.back(), n);
            is(x.count(0), n);
        }
    }

    private static void imageOfAll() {
        says("AN IMAGE keeps THE HAND, THE PLAIT (full ones)");
        DogsOnLeads x = many(6);
        for (int i = 0; i < 40; i++) x.cross(i % 5, 1);
        int last = x.at(5);
        is(x.image(), 6);
        for (int i = 0; i < 40; i++) x.undo();
        hand(x, 0, 1, 2, 3, 4, 5);
        is(x.back(), 6);
        is(x.count(1), 40);
        is(x.at(5), last);
        is(x.cross(0, 1), FULL);
        for (int i = 0; i < 40; i++) is(x.left(i), i % 5 * 10 + 1);
        for (int i = 39; i >= 0; i--) is(x.undo(), i);
        hand(x, 0, 1, 2, 3, 4, 5);
        says("AN IMAGE keeps THE PLAIT, not just THE TANGLE");
        x = many(3);
        cross(x, 1, 0, 1, 1);
        x.cross(1, 0);
        x.image();
        is(x.comb(), 2);
        is(x.back(), 3);
        is(x.count(1), 4);
        is(x.who(0, 1), 1);
        is(x.who(0, 2), 1);
        is(x.without(2), 1);
        hand(x, 1, 2, 0);
        says("AN IMAGE keeps PACES, NUMBERS, HOUSES, THE RULE");
        x = new DogsOnLeads();
        x.dog(3, 19, 0);
        x.dog(4, 90, 99);
        read(x, "odds 1;worth 1;minds 1;");
        x.force(1);
        x.image();
        for (int dog = 0; dog < 2; dog++) for (int what = 0; what < 3; what++) x.set(dog, what, 5);
        x.force(0);
        is(x.back(), 2);
        int[][] were = {{1, 9, 0, 3}, {9, 0, 99, 4}};
        for (int dog = 0; dog < 2; dog++) for (int what = 0; what < 4; what++) is(x.told(dog, what), were[dog][what]);
        is(x.count(5), 1);
        is(x.force(1), 1);
    }

    private static void imageOfFewer() {
        says("dogs that came since go");
        DogsOnLeads x = new DogsOnLeads();
        is(x.image(), 0);
        for (int i = 0; i < 6; i++) x.dog(1, 55, 5);
        cross(x, 1, 0, 1, 2);
        is(x.back(), 0);
        is(x.count(0), 0);
        is(x.count(1), 0);
        is(x.told(0, 0), BAD);
        is(x.at(0), BAD);
        is(x.undo(), STATE);
        says("their numbers are free again, and for other KINDS");
        is(x.dog(5, 12, 3), 0);
        is(x.told(0, 3), 5);
        is(x.told(0, 0), 1);
        hand(x, 0);
        says("dogs that came when the crossings of THE IMAGE were undone go, too");
        x = many(2);
        x.cross(0, 1);
        x.image();
        x.undo();
        is(x.dog(2, 33, 3), 2);
        x.cross(1, 0);
        is(x.back(), 2);
        is(x.count(0), 2);
        is(x.told(2, 0), BAD);
        hand(x, 1, 0);
        tangle(x, 1);
        is(x.dog(0, 10, 0), STATE);
    }

    private static void imageStays() {
        says("All that it keeps is as in THE IMAGE: again and again");
        DogsOnLeads x = plain(3, 4);
        x.image();
        for (int i = 0; i < 3; i++) {
            x.set(0, 0, 9);
            x.cross(0, 1);
            is(x.back(), 2);
            is(x.told(0, 0), 3);
            is(x.count(1), 0);
            hand(x, 0, 1);
        }
        says("a later IMAGE in the place of the former one");
        x.cross(0, 1);
        x.set(0, 0, 8);
        is(x.image(), 2);
        x.undo();
        x.set(0, 0, 7);
        is(x.back(), 2);
        is(x.told(0, 0), 8);
        hand(x, 1, 0);
        x.undo();
        is(x.image(), 2);
        is(x.back(), 2);
        hand(x, 0, 1);
    }

    private static void whatNoImageKeeps() {
        says("AN IMAGE keeps no TEXTS, no TAPE, no SHEETS");
        DogsOnLeads x = many(2);
        order(x, 0, 1, 0);
        x.image();
        is(read(x, "odds 7;worth 7;minds 7;"), 1);
        x.force(1);
        feed(x, "odds");
        order(x, 0, 0, 1);
        order(x, 1, 1, 0);
        is(x.back(), 2);
        is(x.count(5), 0);
        is(x.count(3), 2);
        is(x.count(4), 4);
        is(x.swaps(0), 0);
        is(x.swaps(1), 1);
        is(x.force(1), 0);
        is(x.asks(0, 1, 0), 7);
        is(x.text(), -104);
        x.image();
        x.sheet(0, -1, 0);
        x.back();
        is(x.swaps(0), NOTHING);
    }

    private static void counts() {
        says("How many: 0 dogs, 1 CROSSINGS of THE PLAIT, 2 of THE TANGLE, 3 TEXTS, 4 bytes of THE TAPE, 5 THE RULE. BAD");
        DogsOnLeads x = new DogsOnLeads();
        int[] first = {0, 0, 0, 1, 0, 0};
        for (int what = 0; what < 6; what++) is(x.count(what), first[what]);
        for (int i = 0; i < 6; i++) x.dog(0, 10, 0);
        for (int i = 1; i <= 5; i++) read(x, "odds 0;worth 0;minds 0;");
        x.force(5);
        for (int i = 0; i < 160; i++) x.feed(0);
        x.sheet(0, 0, 40);
        x.crossings(0, 0, 0, 20);
        x.crossings(0, 0, 0, 20);
        int[] last = {6, 40, 40, 6, 160, 5};
        for (int what = 0; what < 6; what++) is(x.count(what), last[what]);
        is(x.count(-1), BAD);
        is(x.count(6), BAD);
        is(x.count(LEAST_INT), BAD);
        is(x.count(MOST_INT), BAD);
        x.undo();
        x.cross(0, 1);
        is(x.count(1), 40);
        is(x.count(2), 38);
    }

    /** How many items a sheet has: as many as can be copied onto themselves; -11 if it is missing. */
    private static int size(DogsOnLeads x, int sheet) {
        if (x.copy(sheet, 0, sheet, 0, 0) == NOTHING) return NOTHING;
        int n = 0;
        while (n < 42 && x.copy(sheet, 0, sheet, 0, n + 1) == n + 1) n++;
        return n;
    }

    private static void sheetBounds() {
        says("A SHEET (0 .. 3) becomes a row of n (40 at most) of a sort (0 bytes, 1 shorts, 2 ints): 1");
        for (int sheet = 0; sheet <= 3; sheet++) {
            DogsOnLeads x = new DogsOnLeads();
            for (int sort = 0; sort <= 2; sort++) {
                for (int n : new int[] {0, 1, 40}) {
                    is(x.sheet(sheet, sort, n), 1);
                    is(size(x, sheet), n);
                }
            }
            for (int other = 0; other <= 3; other++) if (other != sheet) is(size(x, other), NOTHING);
        }
        says("or missing (sort -1: n does not matter): 1");
        DogsOnLeads x = new DogsOnLeads();
        for (int n : new int[] {0, 40, 41, -1, LEAST_INT, MOST_INT}) {
            x.sheet(0, 2, 3);
            is(x.sheet(0, -1, n), 1);
            is(size(x, 0), NOTHING);
            is(x.sheet(0, -1, n), 1);
        }
        says("BAD: no such SHEET, sort; n above 40; -14");
        for (int kept : new int[] {NOTHING, 0, 7}) {
            if (kept >= 0) x.sheet(0, 1, kept);
            for (int sheet : new int[] {-1, 4, LEAST_INT, MOST_INT}) {
                is(x.sheet(sheet, 0, 1), BAD);
                is(x.sheet(sheet, -1, 1), BAD);
                is(x.sheet(sheet, 0, -1), BAD);
            }
            for (int sort : new int[] {-2, 3, LEAST_INT, MOST_INT}) {
                is(x.sheet(0, sort, 1), BAD);
                is(x.sheet(0, sort, -1), BAD);
            }
            is(x.sheet(0, 0, 41), BAD);
            is(x.sheet(0, 0, MOST_INT), BAD);
            is(x.sheet(0, 0, -1), BELOW_NOTHING);
            is(x.sheet(0, 2, LEAST_INT), BELOW_NOTHING);
            is(size(x, 0), kept);
        }
    }

    private static void sheetsAnew() {
        says("all 0");
        DogsOnLeads x = many(1);
        for (int sort = 0; sort <= 2; sort++) {
            row(x, 0, sort, 1);
            is(x.swaps(0), BAD);
            x.sheet(0, sort, 1);
            is(x.swaps(0), 0);
        }
        row(x, 0, 2, 1, 1, 1);
        x.sheet(0, -1, 0);
        x.sheet(0, 2, 1);
        is(x.swaps(0), 0);
        x = many(2);
        x.sheet(0, 2, 40);
        is(x.cell(0, 39, 2), 1);
        is(x.sheet(0, 0, 40), 1);
        is(x.crossings(0, 0, 0, 20), 20);
        is(x.left(19), 0);
    }

    private static void cells() {
        says("Item i of a SHEET becomes v: 1. BAD: no such SHEET; -11; -12");
        DogsOnLeads x = many(2);
        for (int sheet : new int[] {-1, 4, LEAST_INT, MOST_INT}) {
            is(x.cell(sheet, 0, 0), BAD);
            is(x.cell(sheet, -1, 0), BAD);
        }
        for (int sheet = 0; sheet <= 3; sheet++) {
            is(x.cell(sheet, 0, 0), NOTHING);
            is(x.cell(sheet, -1, 0), NOTHING);
            is(x.cell(sheet, 40, 0), NOTHING);
        }
        for (int sort = 0; sort <= 2; sort++) {
            for (int n : new int[] {0, 1, 40}) {
                x.sheet(3, sort, n);
                is(x.cell(3, -1, 1), OUTSIDE);
                is(x.cell(3, n, 1), OUTSIDE);
                is(x.cell(3, LEAST_INT, 1), OUTSIDE);
                is(x.cell(3, MOST_INT, 1), OUTSIDE);
                if (n > 0) is(x.cell(3, 0, 1), 1);
                if (n > 0) is(x.cell(3, n - 1, 1), 1);
            }
            says("Item i alone");
            x.sheet(0, sort, 2);
            is(x.swaps(0), BAD);
            is(x.cell(0, 1, 1), 1);
            is(x.swaps(0), 0);
            is(x.cell(0, 0, 1), 1);
            is(x.swaps(0), BAD);
            is(x.cell(0, 1, 0), 1);
            is(x.swaps(0), 1);
        }
    }

    /** Whether an item is 1 when it has become v. */
    private static int becomesOne(int sort, int v) {
        DogsOnLeads x = many(2);
        row(x, 0, sort, v, 0);
        return x.swaps(0) == 1 ? 1 : 0;
    }

    private static void lowestBits() {
        says("of bytes, shorts its lowest 8, 16 bits");
        int[] ofBytes = {1, 257, -255, 513, 65537, -65535, LEAST_INT + 1, 0x7FFFFF01};
        int[] ofShorts = {1, 65537, -65535, LEAST_INT + 1, 0x7FFF0001};
        int[] ofNone = {0, 2, -1, 129, 255, 256, 32768, 65535, 65536, MOST_INT, LEAST_INT};
        for (int v : ofBytes) is(becomesOne(0, v), 1);
        for (int v : ofShorts) is(becomesOne(1, v), 1);
        for (int v : ofBytes) is(becomesOne(2, v), v == 1 ? 1 : 0);
        is(becomesOne(0, 32769), 1);
        is(becomesOne(1, 32769), 0);
        is(becomesOne(1, 257), 0);
        is(becomesOne(1, -255), 0);
        for (int sort = 0; sort <= 2; sort++) for (int v : ofNone) is(becomesOne(sort, v), 0);
        says("of bytes, shorts no number that is 128, 32768 or more, or below 0, is a dog's");
        DogsOnLeads x = many(1);
        for (int sort = 0; sort <= 1; sort++) {
            row(x, 0, sort, sort == 0 ? 128 : 32768);
            is(x.swaps(0), BAD);
            row(x, 0, sort, -1);
            is(x.swaps(0), BAD);
            row(x, 0, sort, LEAST_INT);
            is(x.swaps(0), 0);
        }
    }

    private static void copyBounds() {
        says("BAD: no such SHEET; -11; -13: they are of unlike sorts; -12 (also with n below 0)");
        DogsOnLeads x = new DogsOnLeads();
        for (int sheet : new int[] {-1, 4, LEAST_INT, MOST_INT}) {
            is(x.copy(sheet, 0, 0, 0, 0), BAD);
            is(x.copy(0, 0, sheet, 0, 0), BAD);
            is(x.copy(sheet, -1, sheet, -1, -1), BAD);
        }
        is(x.copy(0, 0, 1, 0, 0), NOTHING);
        x.sheet(0, 0, 3);
        is(x.copy(0, 0, 1, 0, 0), NOTHING);
        is(x.copy(1, 0, 0, 0, 0), NOTHING);
        is(x.copy(0, -1, 1, 9, -1), NOTHING);
        is(x.copy(1, 0, 1, 0, 0), NOTHING);
        for (int sort = 1; sort <= 2; sort++) {
            x.sheet(1, sort, 3);
            is(x.copy(0, 0, 1, 0, 0), OTHER_SORT);
            is(x.copy(1, 0, 0, 0, 3), OTHER_SORT);
            is(x.copy(0, -1, 1, 9, -1), OTHER_SORT);
        }
        x.sheet(2, 1, 3);
        is(x.copy(1, 0, 2, 0, 0), OTHER_SORT);
        says("-12: what is not within both");
        x.sheet(0, 2, 3);
        x.sheet(1, 2, 5);
        int[][] outside = {{0, 0, -1}, {0, 0, LEAST_INT}, {0, 0, 4}, {1, 0, 3}, {2, 0, 2}, {3, 0, 1}, {4, 0, 0}, {-1, 0, 0},
            {-1, 0, 1}, {0, 3, 3}, {0, 4, 2}, {0, 5, 1}, {0, 6, 0}, {0, -1, 0}, {0, -1, 1}, {MOST_INT, 0, 1}, {0, MOST_INT, 1},
            {1, 0, MOST_INT}, {0, 1, MOST_INT}, {MOST_INT, MOST_INT, MOST_INT}, {LEAST_INT, 0, 1}, {0, LEAST_INT, 1},
            {MOST_INT, 0, 0}, {0, 0, MOST_INT}, {3, 5, -1}, {2, 2, -1}};
        for (int[] o : outside) is(x.copy(0, o[0], 1, o[1], o[2]), OUTSIDE);
        says("n: none, one, all");
        int[][] within = {{0, 0, 0}, {3, 5, 0}, {0, 5, 0}, {3, 0, 0}, {0, 0, 3}, {0, 2, 3}, {2, 4, 1}, {0, 0, 1}, {1, 3, 2}};
        for (int[] w : within) is(x.copy(0, w[0], 1, w[1], w[2]), w[2]);
        x.sheet(0, 2, 40);
        x.sheet(1, 2, 40);
        is(x.copy(0, 0, 1, 0, 40), 40);
        is(x.copy(0, 0, 1, 0, 41), OUTSIDE);
        x.sheet(0, 2, 0);
        is(x.copy(0, 0, 1, 40, 0), 0);
        is(x.copy(0, 0, 1, 0, 1), OUTSIDE);
    }

    private static void copies() {
        says("n numbers of a SHEET, from item i on, come to another one's item j on");
        DogsOnLeads x = many(4);
        order(x, 0, 3, 2, 1, 0);
        order(x, 1, 0, 1, 2, 3);
        is(x.copy(0, 1, 1, 1, 2), 2);
        is(x.swaps(1), 1);
        is(x.swaps(0), 6);
        is(x.copy(0, 0, 1, 0, 4), 4);
        is(x.swaps(1), 6);
        says("they are two rows then as before");
        x.cell(0, 0, 0);
        is(x.swaps(1), 6);
        is(x.swaps(0), BAD);
        says("(as they were): of one SHEET, to places behind and ahead");
        order(x, 0, 1, 2, 3, 0);
        is(x.copy(0, 0, 0, 1, 3), 3);
        x.cell(0, 0, 0);
        is(x.swaps(0), 0);
        is(x.copy(0, 1, 0, 0, 3), 3);
        x.cell(0, 3, 0);
        is(x.swaps(0), 3);
        is(x.copy(0, 0, 0, 0, 4), 4);
        is(x.swaps(0), 3);
        says("of each sort; none of the others' items");
        for (int sort = 0; sort <= 2; sort++) {
            row(x, 0, sort, 3, 2);
            row(x, 1, sort, 0, 1, 2, 3);
            is(x.copy(0, 0, 1, 2, 2), 2);
            is(x.swaps(1), 1);
            is(x.copy(0, 0, 1, 0, 0), 0);
            is(x.swaps(1), 1);
        }
    }

    private static void crossingBounds() {
        says("BAD: no such SHEET, sort, n (0 .. 20); -13; -11; -12");
        DogsOnLeads x = many(2);
        for (int sheet : new int[] {-1, 4, LEAST_INT, MOST_INT}) is(x.crossings(sheet, 0, 0, 0), BAD);
        for (int sort : new int[] {-1, 3, LEAST_INT, MOST_INT}) is(x.crossings(0, sort, 0, 0), BAD);
        for (int n : new int[] {-1, 21, LEAST_INT, MOST_INT}) is(x.crossings(0, 0, 0, n), BAD);
        for (int sort = 0; sort <= 2; sort++) {
            is(x.crossings(0, sort, 0, 0), NOTHING);
            is(x.crossings(0, sort, 99, 20), NOTHING);
            is(x.crossings(0, sort, 0, 21), BAD);
        }
        for (int sort = 0; sort <= 2; sort++) {
            x.sheet(0, sort, 2);
            for (int other = 0; other <= 2; other++) {
                is(x.crossings(0, other, 0, 0), other == sort ? 0 : OTHER_SORT);
                is(x.crossings(0, other, 0, 1), other == sort ? 1 : OTHER_SORT);
                is(x.crossings(0, other, 99, 1), other == sort ? OUTSIDE : OTHER_SORT);
                is(x.crossings(0, other, 99, 21), BAD);
            }
            is(x.crossings(0, -1, 0, 1), BAD);
        }
        is(x.count(1), 3);
        says("n of them: none, one, 20; THE PLAIT is full");
        x = many(2);
        x.sheet(0, 2, 40);
        is(x.crossings(0, 2, 0, 0), 0);
        is(x.crossings(0, 2, 0, 1), 1);
        is(x.crossings(0, 2, 0, 20), 20);
        is(x.crossings(0, 2, 0, 20), 19);
        is(x.crossings(0, 2, 0, 20), 0);
        is(x.count(1), 40);
    }

    private static void crossingsOutside() {
        says("-12: what stood ahead came");
        DogsOnLeads x = many(3);
        row(x, 0, 0, 0, 1, 1, 0, 1);
        is(x.crossings(0, 0, 0, 2), 2);
        is(x.crossings(0, 0, 0, 3), OUTSIDE);
        is(x.count(1), 4);
        is(x.crossings(0, 0, 1, 2), 2);
        is(x.crossings(0, 0, 1, 3), OUTSIDE);
        // From 1 on 1 over, then 0 over; both came twice.
        is(x.count(1), 8);
        is(x.crossings(0, 0, 3, 1), 1);
        is(x.crossings(0, 0, 4, 1), OUTSIDE);
        is(x.crossings(0, 0, 5, 1), OUTSIDE);
        is(x.crossings(0, 0, -1, 1), OUTSIDE);
        is(x.crossings(0, 0, -2, 2), OUTSIDE);
        is(x.crossings(0, 0, LEAST_INT, 20), OUTSIDE);
        is(x.crossings(0, 0, MOST_INT, 20), OUTSIDE);
        is(x.crossings(0, 0, MOST_INT - 1, 20), OUTSIDE);
        is(x.count(1), 9);
        says("-12 also if those that stood ahead were left out");
        row(x, 0, 0, 2, 0);
        is(x.crossings(0, 0, 0, 2), OUTSIDE);
        is(x.count(1), 9);
        says("a row of none");
        x.sheet(0, 0, 0);
        is(x.crossings(0, 0, 0, 0), 0);
        is(x.crossings(0, 0, 0, 1), OUTSIDE);
        says("none of them: nothing is read");
        is(x.crossings(0, 0, 99, 0), 0);
        is(x.crossings(0, 0, -1, 0), 0);
    }

    private static void crossingsLeftOut() {
        says("two by two (as of cross()): how many came (others are left out)");
        DogsOnLeads x = many(3);
        row(x, 0, 1, 0, 1, 2, 1, -1, 0, 0, 2, 0, -1, 1, 0, 256, 0, 0, 257);
        is(x.crossings(0, 1, 0, 8), 2);
        is(x.count(1), 2);
        tangle(x, 1, 10);
        hand(x, 1, 2, 0);
        says("truly: they are undone as those of cross()");
        is(x.undo(), 1);
        hand(x, 1, 0, 2);
        is(x.who(0, 1), 1);
        says("no dogs, one dog: all are left out");
        for (int n = 0; n <= 1; n++) {
            x = many(n);
            x.sheet(0, 2, 40);
            is(x.crossings(0, 2, 0, 20), 0);
            is(x.count(1), 0);
        }
        says("six dogs: places 0 .. 4");
        x = many(6);
        row(x, 0, 2, 4, 1, 5, 1, 0, 0);
        is(x.crossings(0, 2, 0, 3), 2);
        tangle(x, 41, 0);
    }
}
