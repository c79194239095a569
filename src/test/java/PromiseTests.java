/** For each promise answers that were worked out by hand from the document: ordinary ones, edges, refusals. */
public final class PromiseTests {
    private static int wrong = 0;
    private static int promise = 0;
    private static int row = 0;

    private static void is(long got, long want) {
        row++;
        if (got != want) {
            wrong++;
            System.out.println("promise " + promise + ", row " + row + ": answered " + got + ", due is " + want);
        }
    }

    private static void promise(int number) {
        promise = number;
        row = 0;
    }

    public static void main(String[] args) {
        aNewObject();
        dogs();
        pulls();
        asksByTheFirstText();
        tape();
        faults();
        depthOfTexts();
        valuesOfTexts();
        fullOfTexts();
        rule();
        crossingsComeAndGo();
        tangle();
        unclipped();
        costs();
        oddsAndOrders();
        swapsAndSeen();
        posts();
        fetching();
        walking();
        taking();
        drawing();
        images();
        counts();
        sheets();
        crossingsBySheet();
        takenForKinds();
        System.out.println(wrong == 0 ? "all promises are kept" : wrong + " answers are not as promised");
        if (wrong != 0) System.exit(1);
    }

    private static DogsOnLeads plain(int... paces) {
        DogsOnLeads x = new DogsOnLeads();
        for (int pace : paces) x.dog(0, 10 * pace, 0);
        return x;
    }

    private static int read(DogsOnLeads x, String text) {
        for (int i = 0; i < text.length(); i++) x.feed(text.charAt(i));
        return x.text();
    }

    private static int fault(String text) {
        return -100 - read(new DogsOnLeads(), text);
    }

    /** What odds come to of dogs 0 and 1 of four, of paces 9 1 5 5, in the hand 2 1 3 0. */
    private static int odds(String e) {
        DogsOnLeads x = plain(9, 1, 5, 5);
        for (int p : new int[] {0, 1, 2, 0, 0, 0, 1, 0, 1}) x.cross(p, 1);
        x.force(read(x, "odds " + e + ";worth 0;minds 0;"));
        return x.asks(0, 1, 0);
    }

    private static void order(DogsOnLeads x, int sheet, int... dogs) {
        x.sheet(sheet, 2, dogs.length);
        for (int i = 0; i < dogs.length; i++) x.cell(sheet, i, dogs[i]);
    }

    private static void hand(DogsOnLeads x, int... dogs) {
        for (int i = 0; i < dogs.length; i++) is(x.at(i), dogs[i]);
    }

    private static void aNewObject() {
        promise(1);
        DogsOnLeads x = new DogsOnLeads();
        is(x.count(0), 0);
        is(x.count(1), 0);
        is(x.count(3), 1);
        is(x.count(4), 0);
        is(x.count(5), 0);
        is(x.at(0), -2);
        is(x.back(), -3);
        for (int s = 0; s < 4; s++) is(x.cell(s, 0, 0), -11);
    }

    private static void dogs() {
        promise(2);
        DogsOnLeads x = new DogsOnLeads();
        is(x.dog(-1, 10, 0), -2);
        is(x.dog(6, 10, 0), -2);
        is(x.dog(0, 9, 0), -2);
        is(x.dog(0, 100, 0), -2);
        is(x.dog(0, -50, 0), -2);
        is(x.dog(0, 10, -1), -2);
        is(x.dog(0, 10, 100), -2);
        is(x.dog(5, 99, 99), 0);
        is(x.dog(0, 10, 0), 1);
        hand(x, 0, 1);
        x.cross(0, 1);
        is(x.dog(0, 10, 0), -3);
        is(x.dog(0, 0, 0), -2);
        is(x.undo(), 0);
        for (int i = 2; i < 6; i++) is(x.dog(i, 10 + i, i), i);
        hand(x, 0, 1, 2, 3, 4, 5);
        is(x.dog(0, 10, 0), -4);
        is(x.dog(6, 10, 0), -2);
        x.cross(4, 0);
        is(x.dog(0, 10, 0), -3);
        is(x.count(0), 6);
        promise(3);
        is(x.set(0, 0, 1), 9);
        is(x.set(0, 0, 9), 1);
        is(x.set(0, 1, 0), 9);
        is(x.set(0, 2, 0), 99);
        is(x.set(0, 2, 99), 0);
        is(x.set(0, 0, 0), -2);
        is(x.set(0, 0, 10), -2);
        is(x.set(0, 1, -1), -2);
        is(x.set(0, 1, 10), -2);
        is(x.set(0, 2, -1), -2);
        is(x.set(0, 2, 100), -2);
        is(x.set(0, 3, 1), -2);
        is(x.set(0, -1, 1), -2);
        is(x.set(6, 0, 1), -2);
        is(x.set(-1, 0, 1), -2);
        is(x.told(0, 0), 9);
        is(x.told(0, 1), 0);
        is(x.told(0, 2), 99);
        promise(4);
        is(x.told(3, 0), 1);
        is(x.told(3, 1), 3);
        is(x.told(3, 2), 3);
        is(x.told(3, 3), 3);
        is(x.told(5, 4), 4);
        is(x.told(4, 4), 5);
        is(x.told(0, 6), -2);
        is(x.told(0, -1), -2);
        is(x.told(6, 0), -2);
        is(x.told(-1, 0), -2);
    }

    private static void pulls() {
        promise(4);
        DogsOnLeads x = new DogsOnLeads();
        for (int kind = 5; kind >= 0; kind--) x.dog(kind, 73, 0);
        is(x.told(0, 5), 20);
        is(x.told(1, 5), 1);
        is(x.told(2, 5), 12);
        is(x.told(3, 5), 3);
        is(x.told(4, 5), 10);
        is(x.told(5, 5), 7);
        x.cross(0, 1);
        is(x.told(0, 5), 19);
        x.set(1, 0, 3);
        is(x.told(1, 5), 0);
        for (int p = 1; p < 5; p++) x.cross(p, 1);
        x.set(0, 0, 1);
        x.set(0, 1, 1);
        is(x.told(0, 4), 5);
        is(x.told(0, 5), 0);
        x.set(0, 1, 2);
        is(x.told(0, 5), 1);
    }

    private static void asksByTheFirstText() {
        promise(5);
        DogsOnLeads x = plain(9, 1, 4);
        is(x.asks(0, 1, 0), 8);
        is(x.asks(1, 0, 0), 8);
        is(x.asks(0, 1, 1), 2);
        is(x.asks(1, 2, 1), 7);
        is(x.asks(0, 2, 2), 1);
        is(x.asks(1, 1, 0), -100000);
        is(x.asks(3, 1, 0), -100000);
        is(x.asks(1, 3, 0), -100000);
        is(x.asks(-1, 1, 0), -100000);
        is(x.asks(0, 1, 3), -100000);
        is(x.asks(0, 1, -1), -100000);
        int t = read(x, "odds 0 - 1; worth 0 - 100; minds 0-7 ;");
        is(x.force(t), 0);
        is(x.asks(0, 1, 0), 0);
        is(x.asks(0, 1, 1), -99);
        is(x.asks(0, 1, 2), 0);
        t = read(x, "odds 100; worth 100; minds 100;");
        is(x.force(t), 1);
        is(x.asks(0, 1, 0), 99);
        is(x.asks(0, 1, 1), 99);
        is(x.asks(0, 1, 2), 99);
    }

    private static void tape() {
        promise(6);
        DogsOnLeads x = new DogsOnLeads();
        is(x.feed(-1), -2);
        is(x.feed(256), -2);
        for (int i = 1; i <= 160; i++) is(x.feed(i == 1 ? 0 : i == 2 ? 255 : 32), i);
        is(x.feed(32), -4);
        is(x.feed(256), -2);
        is(x.count(4), 160);
        promise(7);
        is(x.text(), -100);
        is(x.count(4), 0);
        is(x.feed(65), 1);
    }

    private static void faults() {
        promise(7);
        is(fault(""), 0);
        is(fault("  \n"), 3);
        is(fault("odds"), 4);
        is(fault("odds "), 5);
        is(fault("worth 1"), 0);
        is(fault(" odd 1"), 1);
        is(fault("odds1;worth1;minds1;"), -101);
        is(fault("oddsone;"), 0);
        is(fault("odds one other;"), 9);
        is(fault("odds 1;odds 1;"), 7);
        is(fault("odds 1;worth 1;minds 1"), 22);
        is(fault("odds 1;worth 1;minds 1; "), -101);
        is(fault("odds 1;worth 1;minds 1; ;"), 24);
        is(fault("odds 1;worth 1;minds 1;odds"), 23);
        is(fault("odds 12345;"), 5);
        is(fault("odds 0000;worth 9999;minds 1;"), -101);
        is(fault("odds 00000;"), 5);
        is(fault("odds 1 2;"), 7);
        is(fault("odds 1a;"), 6);
        is(fault("odds 1 < 2 < 3;"), 11);
        is(fault("odds 1 = 2 = 3;"), 11);
        is(fault("odds (1 < 2) < 3;worth 1;minds 1;"), -101);
        is(fault("odds 1 + not 2;"), 9);
        is(fault("odds - not 2;"), 7);
        is(fault("odds 1 < not 2;"), 9);
        is(fault("odds not not 2 and not 1;worth 1;minds 1;"), -101);
        is(fault("odds ();"), 6);
        is(fault("odds (1;"), 7);
        is(fault("odds 1);"), 6);
        is(fault("odds 1 +;"), 8);
        is(fault("odds + 1;"), 5);
        is(fault("odds or;"), 5);
        is(fault("odds 1 or or 1;"), 10);
        is(fault("odds pacE;"), 5);
        is(fault("odds land;"), 5);
        is(fault("bdds 1;"), 0);
        is(fault("odds onez;"), 5);
        is(fault("odds aone;"), 5);
        is(fault("odds 1" + (char) 96 + ";"), 6);
        is(fault("odds 1{;"), 6);
        is(fault("odds 1/;"), 6);
        is(fault("odds 1:;"), 6);
        is(fault("odds pace" + (char) 9 + ";"), 9);
        is(fault("odds pace" + (char) 200 + ";"), 9);
        is(fault("odds 1 x 12345"), 7);
        is(fault("odds 1;worth 1;minds 1;  x"), 25);
        is(fault("odds 1;\nworth\n1;minds 1 ;\n\n"), -101);
    }

    private static void depthOfTexts() {
        promise(7);
        String rest = ";worth 1;minds 1;";
        is(fault("odds (((((1)))))" + rest), -101);
        is(fault("odds ((((((1))))))" + rest), 10);
        is(fault("odds -----1" + rest), -101);
        is(fault("odds ------1" + rest), 10);
        is(fault("odds not not not not not 1" + rest), -101);
        is(fault("odds not not not not not not 1" + rest), 25);
        is(fault("odds not(-(not 1))+1" + rest), -101);
        is(fault("odds not(-(not - 1))" + rest), 15);
        is(fault("odds not(-(not 1 < - 1))" + rest), 19);
        is(fault("odds not(-(not 1)+ - - -1)" + rest), -101);
        is(fault("odds not(-(not 1)+ - - - -1)" + rest), 25);
        is(fault("odds ((((-1-(1)*-1-1))))" + rest), -101);
        is(fault("odds ((((-(1)))))" + rest), 10);
        is(fault("odds not 1 and not 1 and not 1 and not 1 and not 1 and not 1" + rest), -101);
        is(fault("odds -1*-1*-1*-1*-1*-1*(1)" + rest), -101);
        is(fault("odds (((((1-1-1)))))" + rest), -101);
    }

    private static void valuesOfTexts() {
        promise(5);
        is(odds("one"), 0);
        is(odds("other"), 1);
        is(odds("pace"), 8);
        is(odds("near"), 2);
        is(odds("many"), 4);
        is(odds("hand"), 3);
        is(odds("2+3*4"), 14);
        is(odds("(2+3)*4"), 20);
        is(odds("20-3-4"), 13);
        is(odds("20-3+4"), 21);
        is(odds("- 3 * - 4"), 12);
        is(odds("10 - - 3"), 13);
        is(odds("--7"), 7);
        is(odds("7 or 0"), 1);
        is(odds("0 or 0"), 0);
        is(odds("7 and 9"), 1);
        is(odds("7 and 0"), 0);
        is(odds("1 or 0 and 0"), 1);
        is(odds("not 0"), 1);
        is(odds("not 7"), 0);
        is(odds("not 1 < 0"), 1);
        is(odds("not 0 or 1"), 1);
        is(odds("not 1 and 0"), 0);
        is(odds("1 < 2"), 1);
        is(odds("2 < 2"), 0);
        is(odds("1 + 1 = 2"), 1);
        is(odds("3 = 2"), 0);
        is(odds("(1 < 2) * 40 + 2"), 42);
        is(odds("-1 < 0"), 1);
        is(odds("9999*9999*9999*0+5"), 5);
        // 2048 * 2048 * 1024 wraps around to 0, and 2048 * 2048 * 512 to less than 0.
        is(odds("2048*2048*1024+6"), 6);
        is(odds("2048*2048*512 < 0"), 1);
        is(odds("2048*2048*512 - 1 < 0"), 0);
    }

    private static void fullOfTexts() {
        promise(7);
        DogsOnLeads x = new DogsOnLeads();
        for (int i = 1; i < 6; i++) is(read(x, "odds 1;worth 1;minds 1;"), i);
        is(x.count(3), 6);
        x.feed(65);
        is(x.text(), -4);
        is(x.count(4), 1);
    }

    private static void rule() {
        promise(8);
        DogsOnLeads x = new DogsOnLeads();
        is(x.force(1), -2);
        is(x.force(-1), -2);
        is(x.force(0), 0);
        is(read(x, "odds 1"), -106);
        is(x.force(1), -2);
        is(read(x, "odds 1;worth 1;minds 1;"), 1);
        is(x.count(5), 0);
        is(x.force(1), 0);
        is(x.force(2), -2);
        is(x.force(0), 1);
    }

    private static void crossingsComeAndGo() {
        promise(9);
        DogsOnLeads x = plain(1, 2, 3);
        is(x.cross(-1, 1), -2);
        is(x.cross(2, 1), -2);
        is(x.cross(0, 2), -2);
        is(x.cross(0, -1), -2);
        is(x.cross(0, 1), 1);
        hand(x, 1, 0, 2);
        is(x.cross(1, 0), 2);
        hand(x, 1, 2, 0);
        promise(10);
        is(x.undo(), 1);
        hand(x, 1, 0, 2);
        is(x.undo(), 0);
        hand(x, 0, 1, 2);
        is(x.undo(), -3);
        promise(9);
        for (int i = 1; i <= 40; i++) is(x.cross(i % 2, 1), i);
        is(x.cross(0, 1), -4);
        is(x.cross(2, 1), -2);
        is(x.undo(), 39);
        is(x.cross(0, 0), 40);
        promise(12);
        is(x.at(-1), -2);
        is(x.at(3), -2);
    }

    private static void tangle() {
        promise(13);
        DogsOnLeads x = plain(1, 1, 1, 1, 1);
        x.cross(0, 1);
        x.cross(3, 0);
        x.cross(0, 0);
        is(x.left(0), 30);
        is(x.left(1), -1);
        is(x.left(-1), -1);
        x.cross(1, 1);
        x.cross(0, 1);
        // The one at 0 keeps those at 1 apart.
        x.cross(1, 0);
        is(x.count(2), 4);
        is(x.left(1), 11);
        is(x.left(2), 1);
        is(x.left(3), 10);
        // A like sort at the very place stays.
        x.cross(1, 0);
        is(x.count(2), 5);
        x.cross(1, 1);
        x.cross(1, 1);
        is(x.count(2), 3);
        promise(14);
        is(x.who(3, 4), 1);
        is(x.who(4, 3), 1);
        is(x.who(0, 1), 0);
        is(x.who(0, 2), 1);
        is(x.who(1, 2), 1);
        is(x.who(0, 0), 1);
        is(x.who(0, 5), -2);
        is(x.who(-1, 0), -2);
        is(x.who(5, 5), -2);
        promise(11);
        is(x.count(1), 9);
        hand(x, 2, 0, 1, 4, 3);
        is(x.comb(), 6);
        hand(x, 2, 0, 1, 4, 3);
        is(x.count(1), 3);
        is(x.comb(), 0);
        is(x.undo(), 2);
        hand(x, 0, 2, 1, 4, 3);
        is(x.undo(), 1);
        hand(x, 0, 1, 2, 4, 3);
        is(x.undo(), 0);
        hand(x, 0, 1, 2, 3, 4);
        is(x.comb(), 0);
        promise(14);
        is(x.who(0, 0), 0);
    }

    private static void unclipped() {
        promise(15);
        DogsOnLeads x = plain(1, 1, 1);
        x.cross(0, 1);
        x.cross(1, 1);
        x.cross(0, 0);
        x.cross(1, 0);
        // 0 over 1, 0 over 2, 1 under 2, 1 under 0: without 2 the two of 0 and 1 undo each other.
        is(x.without(0), 4);
        is(x.without(4), 0);
        is(x.without(2), 1);
        is(x.without(1), 1);
        is(x.without(7), 0);
        is(x.without(8), -2);
        is(x.without(-1), -2);
        promise(16);
        is(x.unclip(0), 4);
        is(x.unclip(1), 1);
        is(x.unclip(2), -2);
        is(x.unclip(-1), -2);
        x = plain(1, 1, 1, 1);
        is(x.unclip(0), 0);
        is(x.unclip(1), 0);
        x.cross(0, 1);
        is(x.unclip(0), 1);
        x.cross(2, 1);
        is(x.unclip(0), 5);
        is(x.unclip(1), 2);
        x.comb();
        is(x.unclip(0), 5);
        promise(15);
        // Dog 0 goes to the end and one place back: without 1 it passes 2, then 3 over and back under.
        x = plain(1, 1, 1, 1);
        for (int p = 0; p < 3; p++) x.cross(p, 1);
        x.cross(2, 0);
        is(x.without(0), 2);
        is(x.without(2), 1);
        is(x.without(8), 2);
        is(x.without(1), 0);
    }

    private static void costs() {
        promise(17);
        DogsOnLeads x = plain(1, 2, 4);
        is(x.cost(), 0);
        x.force(read(x, "odds 0;worth 0;minds 10*one+other+100*(near=2);"));
        x.cross(0, 1);
        is(x.cost(), 1);
        x.cross(1, 1);
        // The hand is 1 2 0: 0 and 1 are 2 apart, so theirs is bounded.
        is(x.cost(), 99 + 2);
        x.cross(1, 0);
        is(x.cost(), 1);
    }

    private static void oddsAndOrders() {
        promise(18);
        DogsOnLeads x = plain(5, 1, 9, 4);
        is(x.atOdds(0), 4 + 8 + 5);
        is(x.atOdds(1), 8);
        is(x.atOdds(2), -2);
        is(x.atOdds(-1), -2);
        promise(19);
        is(x.best(0), 1);
        is(x.best(1), 3);
        is(x.best(2), 0);
        is(x.best(3), 2);
        is(x.best(4), -2);
        is(x.best(-1), -2);
        promise(18);
        x = plain(1, 1, 1);
        x.force(read(x, "odds hand*10+near+many*(one=0 and other=1);worth 0;minds 0;"));
        is(x.atOdds(0), 4 + 11);
        // 1 0 2: 11 + 3 and 11; 0 2 1: 1 and 10 * 2 + 1; 2 0 1: 11 and 14; 2 1 0: 11 and 24; 1 2 0: 1 and 21.
        is(x.atOdds(1), 15);
        promise(19);
        hand(x, 0, 1, 2);
        is(x.best(0), 0);
        is(x.best(1), 1);
        x.cross(0, 1);
        is(x.best(0), 0);
        is(x.atOdds(0), 25);
        promise(18);
        is(plain().atOdds(1), 0);
        is(plain(3).atOdds(0), 0);
        is(plain(3).best(0), 0);
    }

    private static void swapsAndSeen() {
        promise(20);
        DogsOnLeads x = plain(1, 1, 1);
        is(x.swaps(-1), -2);
        is(x.swaps(4), -2);
        is(x.swaps(3), -11);
        order(x, 3, 2, 1, 0);
        is(x.swaps(3), 3);
        x.cross(0, 1);
        is(x.swaps(3), 2);
        order(x, 3, 1, 0, 2);
        is(x.swaps(3), 0);
        order(x, 3, 1, 0);
        is(x.swaps(3), -2);
        order(x, 3, 1, 0, 2, 3);
        is(x.swaps(3), -2);
        order(x, 3, 1, 1, 2);
        is(x.swaps(3), -2);
        order(x, 3, 1, 0, 3);
        is(x.swaps(3), -2);
        order(x, 3, 1, 0, -1);
        is(x.swaps(3), -2);
        x.sheet(2, 0, 3);
        x.cell(2, 0, 257);
        x.cell(2, 1, -254);
        is(x.swaps(2), 1);
        x.sheet(2, 1, 3);
        x.cell(2, 0, 65537);
        x.cell(2, 1, 258);
        is(x.swaps(2), -2);
        promise(23);
        is(x.seen(4, 0, 0), -2);
        is(x.seen(-1, 0, 0), -2);
        is(x.seen(0, 9, 9), -11);
        is(x.seen(2, 0, 0), -2);
        order(x, 3, 1, 0, 2);
        is(x.seen(3, -1, 0), -2);
        is(x.seen(3, 5, 0), -2);
        is(x.seen(3, 0, 2), -2);
        is(x.seen(3, 0, -1), -2);
        is(x.seen(3, 0, 0), 1);
        is(x.seen(3, 0, 1), 1);
        is(x.seen(3, 1, 0), 0);
        is(x.seen(3, 2, 0), 8);
        is(x.seen(3, 2, 1), 4);
        is(x.seen(3, 4, 0), 96);
        order(x, 3, 0, 1, 2);
        is(x.seen(3, 1, 0), 2);
        is(x.seen(3, 1, 1), 2);
        // 0 0 0, 0 1 1, 1 1 0, each by 8: left are 2, 4 and 4 (1 0 1 leads elsewhere).
        is(x.seen(3, 3, 0), 24);
        is(x.seen(3, 3, 1), 10);
        x = plain(1, 1, 1, 1);
        order(x, 0, 0, 1, 2, 3);
        is(x.seen(0, 2, 1), 6);
        // 0 0 2, 0 2 0, 2 0 0, 1 1 2, 2 1 1 and 2 2 2: what is far (0 2 0) does not keep two apart.
        order(x, 0, 0, 1, 3, 2);
        is(x.seen(0, 3, 0), 48);
        is(x.seen(0, 3, 1), 22);
        x = plain(1);
        order(x, 0, 0);
        is(x.seen(0, 0, 1), 1);
        is(x.seen(0, 1, 0), 0);
        is(x.swaps(0), 0);
    }

    private static void posts() {
        promise(21);
        DogsOnLeads x = new DogsOnLeads();
        // Young, puller of a number above 4, round, old, puller of 4, calm.
        int[][] dogs = {{5, 15}, {1, 15}, {3, 19}, {2, 90}, {1, 14}, {4, 90}};
        for (int[] d : dogs) x.dog(d[0], d[1], 0);
        is(x.post(-1, 0), -100000);
        is(x.post(7, 0), -100000);
        is(x.post(0, 3), -100000);
        is(x.post(0, -1), -100000);
        is(x.post(0, 0), 2 + 8 + 16 + 32);
        is(x.post(1, 0), 2 + 8 + 16 + 32);
        is(x.post(2, 0), 1 + 2 + 8 + 16 + 32);
        is(x.post(3, 0), 1 + 8 + 16 + 32);
        is(x.post(4, 0), 1 + 16 + 32);
        is(x.post(5, 0), 1 + 32);
        is(x.post(6, 0), 1);
        is(x.post(0, 1), 1);
        is(x.post(2, 1), 2);
        is(x.post(4, 1), 3);
        is(x.post(6, 1), 5);
        // 12, 6, 12, 4, 5, 2
        is(x.post(6, 2), 12 - 6 - 12 - 4 - 5 - 2);
        is(x.post(0, 2), -12 + 6 - 12 + 4 + 5 + 2);
        promise(22);
        is(x.bestPost(0), 0);
        is(x.bestPost(1), 1);
        is(x.bestPost(2), -2);
        is(x.bestPost(-1), -2);
        promise(21);
        x = new DogsOnLeads();
        x.dog(4, 10, 0);
        x.dog(5, 15, 0);
        // Calm at place 0 is always on the right; young at an odd place is as a puller.
        is(x.post(2, 0), 3);
        x.set(1, 1, 4);
        is(x.post(2, 0), 1);
        is(x.post(2, 1), 1);
        x.cross(0, 1);
        is(x.post(2, 0), 2);
        is(x.post(0, 0), 1);
        promise(22);
        // Calm and young are both on the right of a post at 0.
        x.undo();
        x.set(1, 1, 0);
        is(x.bestPost(0), 0);
        is(x.bestPost(1), 0);
    }

    private static void fetching() {
        promise(24);
        DogsOnLeads x = new DogsOnLeads();
        is(x.fetch(), 0);
        is(x.fetched(0), -2);
        x.dog(0, 10, 30);
        is(x.fetch(), 60);
        x.dog(0, 10, 70);
        x.dog(0, 10, 20);
        is(x.fetch(), 140);
        promise(25);
        is(x.fetched(0), 0);
        is(x.fetched(1), 1);
        is(x.fetched(2), 2);
        is(x.fetched(3), -2);
        is(x.fetched(-1), -2);
        x.dog(0, 10, 50);
        // 0 1 2 3 would be 200 long; 0 1 3 2 is the first of those of 140.
        is(x.fetch(), 140);
        is(x.fetched(2), 3);
        is(x.fetched(3), 2);
        x.cross(0, 1);
        is(x.fetched(0), 0);
        x.set(1, 2, 0);
        is(x.fetch(), 100);
        is(x.fetched(0), 0);
        is(x.fetched(1), 3);
        is(x.fetched(2), 2);
        is(x.fetched(3), 1);
    }

    private static void walking() {
        promise(26);
        is(plain().walk(), 0);
        is(plain(4).walk(), 0);
        is(plain(5, 1, 9, 4).walk(), 8);
        DogsOnLeads x = plain(1, 1, 1);
        x.force(read(x, "odds hand*10+near;worth 0;minds 0;"));
        is(x.walk(), 2);
        x.cross(0, 1);
        // 0 is at place 1, 1 at place 0: 0 1, 0 2 cost 11, 1 2 costs 1.
        is(x.walk(), 12);
        x.cross(1, 1);
        is(x.walk(), 22);
    }

    private static void taking() {
        promise(27);
        is(plain().take(0), 0);
        is(plain(1).take(0), 0);
        is(plain(1).take(1), 0);
        is(plain(1).take(2), -100000);
        is(plain(1).take(-1), -100000);
        is(plain(1, 1).take(0), 3);
        is(plain(1, 1).take(1), 4);
        // The two slow ones: 10 less 6; with the fast one 4 more and 27 less.
        is(plain(1, 9, 1).take(0), 5);
        is(plain(1, 9, 1).take(1), 4);
        DogsOnLeads x = plain(1, 1, 1);
        x.force(read(x, "odds 0;worth 9*(many=3 and near=1) - 9*(near=2);minds 0;"));
        // Two beside each other are worth 9 - 6, all three 18 - 9 - 9: of like ones the least.
        is(x.take(0), 3);
        is(x.take(1), 3);
        x.cross(1, 1);
        is(x.take(0), 5);
        x.force(read(x, "odds 0;worth 6;minds 0;"));
        is(x.take(0), 7);
        is(x.take(1), 9);
    }

    private static void drawing() {
        promise(28);
        DogsOnLeads x = plain(1, 1);
        is(x.drawn(1, -1), -2);
        is(x.drawn(1, 41), -2);
        is(x.drawn(1, 0), 0);
        is(x.drawn(1, 1), 1);
        // Of two dogs all are at 0, so what is left is how far overs and unders are apart.
        for (int seed : new int[] {0, 1, -1, 77, Integer.MIN_VALUE, Integer.MAX_VALUE}) {
            int z = seed, apart = 0;
            for (int i = 0; i < 40; i++) {
                z = z * 1103515245 + 12345;
                apart += (z >> 16 & 1) == 1 ? 1 : -1;
            }
            is(x.drawn(seed, 40), Math.abs(apart));
        }
        is(plain(1).drawn(1, 40), 0);
        is(plain(1).drawn(1, 41), -2);
        is(x.count(1), 0);
        promise(29);
        long no = DogsOnLeads.NO;
        is(x.chance(1, 0, 1, 1, 0), no);
        is(x.chance(1, 21, 1, 1, 0), no);
        is(x.chance(1, 1, -1, 1, 0), no);
        is(x.chance(1, 1, 41, 1, 0), no);
        is(x.chance(1, 1, 1, -1, 0), no);
        is(x.chance(1, 1, 1, 41, 0), no);
        is(x.chance(1, 1, 1, 1, -1), no);
        is(x.chance(1, 1, 1, 1, 2), no);
        is(x.chance(1, 20, 1, 0, 0), 0);
        is(x.chance(1, 20, 1, 0, 1), 1);
        is(x.chance(1, 20, 1, 1, 0), 1);
        is(x.chance(1, 20, 1, 1, 1), 1);
        int none = 0;
        for (int i = 0; i < 16; i++) if (x.drawn(Integer.MAX_VALUE - 3 + i, 2) == 0) none++;
        int divisor = java.math.BigInteger.valueOf(none).gcd(java.math.BigInteger.valueOf(16)).intValue();
        is(x.chance(Integer.MAX_VALUE - 3, 16, 2, 1, 0), none / divisor);
        is(x.chance(Integer.MAX_VALUE - 3, 16, 2, 1, 1), 16 / divisor);
    }

    private static void images() {
        promise(30);
        DogsOnLeads x = new DogsOnLeads();
        is(x.back(), -3);
        is(x.image(), 0);
        x.dog(0, 10, 0);
        promise(31);
        is(x.back(), 0);
        is(x.count(0), 0);
        is(x.dog(3, 25, 7), 0);
        is(x.told(0, 3), 3);
        x.dog(0, 31, 8);
        promise(30);
        is(x.image(), 2);
        promise(31);
        x.dog(0, 10, 0);
        x.cross(1, 1);
        x.set(0, 0, 9);
        x.set(0, 1, 9);
        x.set(1, 2, 99);
        int t = read(x, "odds 1;worth 1;minds 1;");
        x.force(t);
        x.feed(65);
        x.sheet(0, 0, 3);
        is(x.back(), 2);
        is(x.count(0), 2);
        is(x.count(1), 0);
        is(x.count(5), 0);
        hand(x, 0, 1);
        is(x.told(0, 0), 2);
        is(x.told(0, 1), 5);
        is(x.told(1, 2), 8);
        // Texts, the tape and sheets are not kept by it.
        is(x.count(3), 2);
        is(x.count(4), 1);
        is(x.cell(0, 2, 1), 1);
        is(x.dog(4, 99, 1), 2);
        is(x.told(2, 3), 4);
        x.cross(0, 1);
        x.force(1);
        promise(30);
        is(x.image(), 3);
        promise(31);
        x.undo();
        x.cross(1, 0);
        x.force(0);
        is(x.back(), 3);
        is(x.back(), 3);
        hand(x, 1, 0, 2);
        is(x.left(0), 1);
        is(x.count(5), 1);
        is(x.undo(), 0);
        hand(x, 0, 1, 2);
        is(x.back(), 3);
        hand(x, 1, 0, 2);
    }

    private static void counts() {
        promise(32);
        DogsOnLeads x = plain(1, 1);
        x.cross(0, 1);
        x.cross(0, 0);
        x.cross(0, 0);
        read(x, "odds 1;worth 1;minds 1;");
        x.force(1);
        x.feed(1);
        x.feed(1);
        x.feed(1);
        x.feed(1);
        is(x.count(0), 2);
        is(x.count(1), 3);
        is(x.count(2), 1);
        is(x.count(3), 2);
        is(x.count(4), 4);
        is(x.count(5), 1);
        is(x.count(6), -2);
        is(x.count(-1), -2);
    }

    private static void sheets() {
        promise(33);
        DogsOnLeads x = plain(1, 1, 1);
        is(x.sheet(-1, 0, 1), -2);
        is(x.sheet(4, 0, 1), -2);
        is(x.sheet(0, -2, 1), -2);
        is(x.sheet(0, 3, 1), -2);
        is(x.sheet(0, 0, 41), -2);
        is(x.sheet(0, 0, -1), -14);
        is(x.sheet(4, 0, -1), -2);
        is(x.cell(0, 0, 0), -11);
        is(x.sheet(0, 2, 40), 1);
        is(x.cell(0, 39, 1), 1);
        is(x.cell(0, 40, 1), -12);
        is(x.sheet(0, -1, -5), 1);
        is(x.sheet(0, -1, 50), 1);
        is(x.cell(0, 0, 0), -11);
        is(x.sheet(0, 2, 0), 1);
        is(x.cell(0, 0, 0), -12);
        promise(34);
        is(x.cell(4, 0, 0), -2);
        is(x.cell(-1, 0, 0), -2);
        is(x.cell(1, 0, 0), -11);
        order(x, 0, 2, 1, 0);
        is(x.cell(0, -1, 0), -12);
        is(x.cell(0, 3, 0), -12);
        is(x.swaps(0), 3);
        // Of 65538 a short keeps 2, a byte too; of 258 a byte alone does.
        int[][] kept = {{3, 3, 3}, {3, 3, -2}, {3, -2, -2}};
        int[] values = {2, 65538, 258};
        for (int sort = 0; sort < 3; sort++) {
            for (int i = 0; i < 3; i++) {
                x.sheet(0, sort, 3);
                x.cell(0, 0, values[i]);
                x.cell(0, 1, 1);
                is(x.swaps(0), kept[sort][i]);
            }
        }
        promise(33);
        is(x.sheet(0, 2, 3), 1);
        is(x.cell(0, 1, 1), 1);
        is(x.cell(0, 2, 2), 1);
        is(x.swaps(0), 0);
        promise(35);
        order(x, 0, 2, 1, 0);
        is(x.copy(0, 0, 0, 1, 2), 2);
        is(x.cell(0, 0, 0), 1);
        // 0 2 1: as they were, not as they became on the way.
        is(x.swaps(0), 1);
        is(x.copy(0, 1, 0, 0, 2), 2);
        is(x.cell(0, 2, 0), 1);
        // 2 1 0
        is(x.swaps(0), 3);
        is(x.copy(-1, 0, 0, 0, 0), -2);
        is(x.copy(0, 0, 4, 0, 0), -2);
        is(x.copy(0, 0, 1, 0, -1), -11);
        is(x.copy(1, 0, 0, 0, 0), -11);
        x.sheet(1, 1, 5);
        is(x.copy(0, 9, 1, 0, 0), -13);
        x.sheet(1, 2, 5);
        is(x.copy(0, 0, 1, 0, -1), -12);
        is(x.copy(0, -1, 1, 0, 1), -12);
        is(x.copy(0, 0, 1, -1, 1), -12);
        is(x.copy(0, 1, 1, 0, 3), -12);
        is(x.copy(1, 0, 0, 1, 3), -12);
        is(x.copy(0, Integer.MAX_VALUE, 1, 0, Integer.MAX_VALUE), -12);
        is(x.copy(0, 3, 1, 5, 0), 0);
        is(x.copy(0, 4, 1, 5, 0), -12);
        is(x.copy(0, 0, 1, 2, 3), 3);
    }

    private static void crossingsBySheet() {
        promise(36);
        DogsOnLeads x = plain(1, 1, 1);
        is(x.crossings(4, 0, 0, 0), -2);
        is(x.crossings(-1, 0, 0, 0), -2);
        is(x.crossings(0, 3, 0, 0), -2);
        is(x.crossings(0, -1, 0, 0), -2);
        is(x.crossings(0, 0, 0, 21), -2);
        is(x.crossings(0, 0, 0, -1), -2);
        is(x.crossings(0, 0, 0, 0), -11);
        order(x, 0, 9, 0, 1, 1, 0, 2, 1, 1, 0);
        is(x.crossings(0, 0, 99, 1), -13);
        is(x.crossings(0, 2, 1, 0), 0);
        is(x.crossings(0, 2, 1, 4), 3);
        // 0 over, 1 under, none at 2, 1 under.
        hand(x, 1, 0, 2);
        is(x.count(1), 3);
        is(x.left(0), 1);
        is(x.left(1), 10);
        is(x.left(2), 10);
        is(x.left(3), -1);
        is(x.crossings(0, 2, 7, 2), -12);
        is(x.count(1), 4);
        is(x.crossings(0, 2, 8, 1), -12);
        is(x.crossings(0, 2, -1, 1), -12);
        is(x.crossings(0, 2, Integer.MAX_VALUE, 1), -12);
        is(x.count(1), 4);
        x.sheet(1, 0, 40);
        is(x.crossings(1, 0, 0, 20), 20);
        is(x.crossings(1, 0, 0, 20), 16);
        is(x.count(1), 40);
        is(x.crossings(1, 0, 0, 20), 0);
        x.sheet(1, -1, 0);
        is(x.crossings(1, 0, 0, 1), -11);
    }

    private static void takenForKinds() {
        promise(37);
        DogsOnLeads x = new DogsOnLeads();
        for (int kind = 0; kind < 6; kind++) x.dog(kind, 11 + kind, 0);
        int[] above = {1, 3, 5, 11, 21, 35};
        for (int dog = 0; dog < 6; dog++)
            for (int k = 0; k < 6; k++) is(x.taken(dog, k), (above[dog] >> k & 1) == 1 ? dog + 1 : -13);
        is(x.taken(0, -1), -2);
        is(x.taken(0, 6), -2);
        is(x.taken(9, 6), -2);
        is(x.taken(6, 0), -11);
        is(x.taken(-1, 0), -11);
    }
}
