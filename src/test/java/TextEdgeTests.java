/** Edges of promises 5 to 8: the tape, tokens, faults, what is open, values that wrap, bounds, the rule. */
public final class TextEdgeTests extends Edge {
    private static final String REST = ";worth 1;minds 1;";
    private static final int FITS = -101;

    public static void main(String[] args) {
        tape();
        tapeWhenRead();
        longTexts();
        words();
        numbers();
        bytes();
        blanks();
        earlyEnds();
        places();
        comparisons();
        openOnes();
        whatEnds();
        fullOfTexts();
        names();
        bounds();
        wrapping();
        truths();
        binding();
        rules();
        finish();
    }

    /** The place of the fault; FITS if there is none. */
    private static int fault(String text) {
        return -100 - read(new DogsOnLeads(), text);
    }

    private static String blanks(int n) { return " ".repeat(n); }

    /** What odds of dogs 0 and 1 are, of paces 1 and 9, beside each other. */
    private static int odds(String e) {
        DogsOnLeads x = plain(1, 9);
        rule(x, e, "0", "0");
        is(x.count(5), 1);
        return x.asks(0, 1, 0);
    }

    private static void tape() {
        says("A byte (0 .. 255) comes behind THE TAPE: how many it has. BAD; FULL");
        DogsOnLeads x = new DogsOnLeads();
        is(x.feed(-1), BAD);
        is(x.feed(256), BAD);
        is(x.feed(LEAST_INT), BAD);
        is(x.feed(MOST_INT), BAD);
        is(x.count(4), 0);
        is(x.feed(0), 1);
        is(x.feed(255), 2);
        is(x.count(4), 2);
        says("THE TAPE (160 bytes at most)");
        for (int i = 3; i <= 160; i++) is(x.feed('a'), i);
        is(x.feed('a'), FULL);
        is(x.feed(0), FULL);
        is(x.count(4), 160);
        says("BAD ahead of FULL");
        is(x.feed(-1), BAD);
        is(x.feed(256), BAD);
    }

    private static void tapeWhenRead() {
        says("THE TAPE, which is empty then (by a FAULT, too)");
        DogsOnLeads x = new DogsOnLeads();
        is(x.text(), -100);
        is(read(x, "odds 1" + REST), 1);
        is(x.count(4), 0);
        is(x.text(), -100);
        is(read(x, "odds x"), -105);
        is(x.count(4), 0);
        is(x.text(), -100);
        is(x.feed(65), 1);
        is(x.text(), -100);
        is(read(x, "odds 1" + REST), 2);
        says("by a FAULT no TEXT comes");
        is(x.count(3), 3);
    }

    private static void longTexts() {
        says("a TEXT of all 160 bytes");
        String most = "odds 1" + REST;
        is(fault(blanks(160 - most.length()) + most), FITS);
        is(fault(most + blanks(160 - most.length())), FITS);
        String ones = "odds 1" + "+1".repeat(68) + REST + " ";
        is(ones.length(), 160);
        DogsOnLeads x = many(2);
        is(read(x, ones), 1);
        x.force(1);
        is(x.asks(0, 1, 0), 69);
        says("the text's size, if it ends too early: 160");
        is(fault(blanks(160)), 160);
        String open = "odds 1;worth 1;minds 1";
        is(fault(blanks(160 - open.length()) + open), 160);
        says("what was read before does not stay: a long TEXT behind long ones, faulty ones among them");
        x = many(2);
        is(read(x, "odds 1" + "+1".repeat(70)), -246);
        is(read(x, ones.replace("minds", "binds")), -251);
        is(read(x, ones), 1);
        x.force(1);
        is(x.asks(0, 1, 0), 69);
        is(x.asks(0, 1, 1), 1);
        is(x.asks(0, 1, 2), 1);
        says("what did not come onto a full TAPE is not read");
        x = new DogsOnLeads();
        feed(x, most + blanks(160 - most.length()));
        is(x.feed('x'), FULL);
        is(x.text(), 1);
        says("the last byte is a TOKEN that can't stand there");
        is(fault(most + blanks(159 - most.length()) + "x"), 159);
        says("a WORD, a NUMBER as long as THE TAPE");
        is(fault("a".repeat(160)), 0);
        is(fault("9".repeat(160)), 0);
        is(fault("odds " + "9".repeat(155)), 5);
    }

    private static void words() {
        says("WORDS (a .. z), each as long as can be");
        is(fault("oddsone" + REST), 0);
        is(fault("odds onetwo" + REST), 5);
        is(fault("odds notone" + REST), 5);
        is(fault("odds one andother" + REST), 9);
        is(fault("odds oneand other" + REST), 5);
        is(fault("odds 1and 1or 0" + REST), FITS);
        is(fault("odds not1" + REST), FITS);
        is(fault("odds1;worth1;minds1;"), FITS);
        is(fault("odds(1);worth(1);minds(1);"), FITS);
        is(fault("odds-1;worth-1;minds-1;"), FITS);
        says("a WORD that is neither KEY nor NAME");
        for (String word : new String[] {"a", "z", "on", "ones", "pac", "paces", "nea", "nears", "man", "manys", "han",
            "hands", "othe", "others", "and", "or", "an", "o", "odds", "worth", "minds", "no", "nots", "pone"})
            is(fault("odds " + word + REST), 5);
        for (String word : new String[] {"one", "other", "pace", "near", "many", "hand"})
            is(fault("odds " + word + ";worth " + word + ";minds " + word + ";"), FITS);
        for (String word : new String[] {"odd", "oddss", "od", "worth", "minds", "not", "one", "or"})
            is(fault(word + " 1" + REST), 0);
        for (String word : new String[] {"onez", "zone", "onea", "aone", "zand", "bne", "bace", "oner", "nand", "onee"})
            is(fault("odds " + word + REST), 5);
        for (String word : new String[] {"bdds", "ddds", "oddz", "oddsz", "zodds", "odda"}) is(fault(word + " 1" + REST), 0);
        is(fault("odds 1;borth 1;minds 1;"), 7);
        is(fault("odds 1;worth 1;binds 1;"), 15);
        says("letters a .. z alone: large ones begin none");
        is(fault("Odds 1" + REST), 0);
        is(fault("odDs 1" + REST), 0);
        is(fault("odds oNe" + REST), 5);
        is(fault("odds onE" + REST), 5);
        is(fault("odds 1 OR 1" + REST), 7);
    }

    private static void numbers() {
        says("NUMBERS (as many digits as stand there, 4 at most)");
        is(fault("odds 0" + REST), FITS);
        is(fault("odds 9999" + REST), FITS);
        is(fault("odds 0000" + REST), FITS);
        is(fault("odds 0099" + REST), FITS);
        says("a NUMBER that is too long");
        is(fault("odds 10000" + REST), 5);
        is(fault("odds 00000" + REST), 5);
        is(fault("odds 00001" + REST), 5);
        is(fault("odds 1 + 12345" + REST), 9);
        is(fault("odds 1234 5" + REST), 10);
        is(fault("odds 1;worth 12345;minds 1;"), 13);
        is(fault("odds 1;worth 1;minds 12345;"), 21);
        says("a NUMBER is what its digits say");
        is(odds("0"), 0);
        is(odds("0099"), 99);
        is(odds("9999 - 9900"), 99);
        is(odds("1000 - 990"), 10);
    }

    private static boolean isOneOf(int b, String those) { return those.indexOf(b) >= 0; }

    private static void bytes() {
        says("behind a ONE: a byte that begins none, or a TOKEN that can't stand there");
        for (int b = 0; b <= 255; b++) {
            boolean stands = isOneOf(b, " \n0123456789;+-*<=");
            is(fault("odds 1" + (char) b), stands ? 7 : 6);
        }
        says("ahead of a ONE: a byte that begins none, or a TOKEN that can't stand there");
        for (int b = 0; b <= 255; b++) {
            boolean stands = isOneOf(b, " \n0123456789(-");
            is(fault("odds " + (char) b), stands ? 6 : 5);
        }
        says("in a bracket: ) can stand behind a ONE");
        for (int b = 0; b <= 255; b++) {
            boolean stands = isOneOf(b, " \n0123456789)+-*<=");
            is(fault("odds (1" + (char) b), stands ? 8 : 7);
        }
        says("ahead of odds, and behind the last ; only blanks");
        for (int b = 0; b <= 255; b++) {
            boolean stands = isOneOf(b, " \n");
            is(fault("" + (char) b), stands ? 1 : 0);
            is(fault("odds 1" + REST + (char) b), stands ? FITS : 23);
        }
        says("a byte that begins none ends a WORD and a NUMBER");
        for (int b : new int[] {0, 9, 13, 31, 33, 47, 58, 64, 65, 90, 91, 95, 96, 123, 127, 128, 160, 255}) {
            is(fault("odds one" + (char) b + REST), 8);
            is(fault("odds 12" + (char) b + REST), 7);
            is(fault("odds" + (char) b + " 1" + REST), 4);
        }
    }

    private static void blanks() {
        says("blanks (32, 10) may stand between");
        is(fault("\n odds\n\none \n+ \n2 \n;worth\n- 3;\nminds ( 4 )\n;\n "), FITS);
        is(fault("odds one<2=" + REST), 10);
        is(fault("odds one+2*-3;worth(4);minds-5;"), FITS);
        says("between, not within");
        is(fault("od ds 1" + REST), 0);
        is(fault("odds on e" + REST), 5);
        is(fault("odds 1 2" + REST), 7);
        is(fault("odds\n1\n2" + REST), 7);
        says("other bytes are no blanks");
        for (int b : new int[] {0, 9, 11, 12, 13, 31, 33, 133, 160}) is(fault("odds " + (char) b + "1" + REST), 5);
    }

    private static void earlyEnds() {
        says("the text's size, if it ends too early");
        String whole = "odds not one<2;worth-(3*hand);\nminds many or 45 ;";
        is(fault(whole), FITS);
        for (int size = 0; size < whole.length(); size++) {
            // A word that is cut is none, and its first byte is the fault's place.
            int begin = size;
            while (begin > 0 && Character.isLetter(whole.charAt(begin - 1))) begin--;
            boolean cut = begin < size && Character.isLetter(whole.charAt(size));
            is(fault(whole.substring(0, size)), cut ? begin : size);
        }
        says("the text's size: with the blanks at its end");
        is(fault("odds"), 4);
        is(fault("odds \n"), 6);
        is(fault("odds 1 \n "), 9);
        is(fault("odds 1;worth 1;minds 1  "), 24);
    }

    private static void places() {
        says("TEXT: odds E ; worth E ; minds E ; in this order, each once");
        is(fault("worth 1;odds 1;minds 1;"), 0);
        is(fault("odds 1;minds 1;worth 1;"), 7);
        is(fault("odds 1;worth 1;odds 1;"), 15);
        is(fault("odds 1;worth 1;worth 1;"), 15);
        is(fault("odds 1;worth 1;minds 1;minds 1;"), 23);
        is(fault("odds ;worth 1;minds 1;"), 5);
        is(fault("odds 1;worth ;minds 1;"), 13);
        is(fault("odds 1;worth 1;minds ;"), 21);
        is(fault("odds 1 worth 1;minds 1;"), 7);
        is(fault("odds 1;;worth 1;minds 1;"), 7);
        is(fault(";odds 1" + REST), 0);
        says("the first of the TOKENS that can't stand there");
        is(fault("odds ) x 12345 " + (char) 0), 5);
        is(fault("odds 1 x 12345 )"), 7);
        is(fault("odds 1 12345 x )"), 7);
        is(fault("odds 1 " + (char) 7 + " x"), 7);
        is(fault("odds 1" + REST + " x"), 24);
        is(fault("odds 1" + REST + "12345"), 23);
        says("a sign that lacks what it stands between");
        for (String sign : new String[] {"+", "*", "<", "=", "or", "and"}) {
            is(fault("odds " + sign + " 1" + REST), 5);
            is(fault("odds 1 " + sign + " " + REST), 8 + sign.length());
            is(fault("odds (1 " + sign + " )" + REST), 9 + sign.length());
        }
        is(fault("odds 1 - " + REST), 9);
        is(fault("odds - " + REST), 7);
        is(fault("odds not " + REST), 9);
        is(fault("odds ( )" + REST), 7);
        says("brackets in pairs");
        is(fault("odds (1" + REST), 7);
        is(fault("odds 1)" + REST), 6);
        is(fault("odds (1))" + REST), 8);
        is(fault("odds ((1)" + REST), 9);
        is(fault("odds (1;worth 1);minds 1;"), 7);
        says("not stands ahead of a NOT alone");
        is(fault("odds 1 + not 1" + REST), 9);
        is(fault("odds 1 * not 1" + REST), 9);
        is(fault("odds 1 < not 1" + REST), 9);
        is(fault("odds - not 1" + REST), 7);
        is(fault("odds not not 1" + REST), FITS);
        is(fault("odds 1 or not 1 and not 1" + REST), FITS);
        is(fault("odds 1 + (not 1)" + REST), FITS);
    }

    private static void comparisons() {
        says("SUM, perhaps < or = and a SUM: one of them");
        is(fault("odds 1 < 2" + REST), FITS);
        is(fault("odds 1 = 2" + REST), FITS);
        is(fault("odds 1 < 2 < 3" + REST), 11);
        is(fault("odds 1 = 2 < 3" + REST), 11);
        is(fault("odds 1 < 2 = 3" + REST), 11);
        is(fault("odds 1 <= 2" + REST), 8);
        is(fault("odds 1 << 2" + REST), 8);
        is(fault("odds 1 == 2" + REST), 8);
        is(fault("odds (1 < 2) < (3 = 4)" + REST), FITS);
        is(fault("odds 1 < 2 and 3 < 4 or 5 = 6" + REST), FITS);
        is(fault("odds not 1 < 2 < 3" + REST), 15);
    }

    /** Openers in a row as the digits tell: 0 (, 1 not, 2 -; null if a not stands behind a -. */
    private static String openers(int digits, int n) {
        StringBuilder b = new StringBuilder();
        for (int i = 0, last = -1; i < n; i++, digits /= 3) {
            int kind = digits % 3;
            if (last == 2 && kind == 1) return null;
            b.append(kind == 0 ? "(" : kind == 1 ? "not " : "-");
            last = kind;
        }
        return b.toString();
    }

    private static String closers(String openers) {
        return ")".repeat((int) openers.chars().filter(c -> c == '(').count());
    }

    private static void openOnes() {
        says("5 of ( not - may be open");
        for (int digits = 0; digits < 243; digits++) {
            String open = openers(digits, 5);
            if (open != null) is(fault("odds " + open + "1" + closers(open) + REST), FITS);
        }
        says("a ( , a not, a - ahead of a ONE while 5 of these are open");
        for (int digits = 0; digits < 729; digits++) {
            String open = openers(digits, 6);
            if (open == null) continue;
            int sixth = openers(digits % 243, 5).length();
            is(fault("odds " + open + "1" + closers(open) + REST), 5 + sixth);
        }
        says("in worth and minds as well");
        is(fault("odds 1;worth (((((1)))));minds -----1;"), FITS);
        is(fault("odds 1;worth ((((((1))))));minds 1;"), 18);
        is(fault("odds 1;worth 1;minds ------1;"), 26);
    }

    private static void whatEnds() {
        says("a ( till its )");
        is(fault("odds (((((1)))))+(((((1)))))" + REST), FITS);
        is(fault("odds (((((1)+(1)))))" + REST), FITS);
        is(fault("odds (((((1)+((1))))))" + REST), 14);
        is(fault("odds ((((1)))) < -(((((1)))))" + REST), 22);
        says("- till what it belongs to ends");
        is(fault("odds -----1*-----1---1" + REST), FITS);
        is(fault("odds -1*(((((1)))))" + REST), FITS);
        is(fault("odds -(1)*(((((1)))))" + REST), FITS);
        is(fault("odds -(((((1)))))" + REST), 10);
        is(fault("odds ((((-1*(1)))))" + REST), FITS);
        is(fault("odds ((((-1<(1)))))" + REST), FITS);
        is(fault("odds ((((-(1)))))" + REST), 10);
        says("a - between two is none of these");
        is(fault("odds (((((1-1-1)))))" + REST), FITS);
        is(fault("odds (((((1--1)))))" + REST), 12);
        is(fault("odds 1" + "-1".repeat(60) + REST), FITS);
        says("not till what it belongs to ends");
        is(fault("odds not not not not not 1 and not not not not not 1" + REST), FITS);
        is(fault("odds not not not not not 1 or (((((1)))))" + REST), FITS);
        is(fault("odds not not not not not 1+1*1 = 1" + REST), FITS);
        is(fault("odds not not not not not 1+-1" + REST), 27);
        is(fault("odds not not not not not 1*(1)" + REST), 27);
        is(fault("odds not not not not not 1 < (1)" + REST), 29);
        is(fault("odds not not not not 1 < (1) and (((((1)))))" + REST), FITS);
        is(fault("odds not not not not 1 < ((1))" + REST), 26);
        is(fault("odds (not not not not 1) and not not not not not 1" + REST), FITS);
        says("what ends with ; is open no longer");
        is(fault("odds not not not not not 1;worth not not not not not 1;minds (((((1)))));"), FITS);
    }

    private static void fullOfTexts() {
        says("There are 6 TEXTS at most, TEXT 0 with them");
        DogsOnLeads x = new DogsOnLeads();
        is(x.count(3), 1);
        for (int i = 1; i <= 5; i++) {
            is(read(x, "odds 0;worth 0;minds 0;"), i);
            is(x.count(3), i + 1);
        }
        says("FULL (ahead of all): no TEXT more has room (THE TAPE stays)");
        is(x.text(), FULL);
        is(x.count(4), 0);
        feed(x, "odds x");
        is(x.text(), FULL);
        is(x.count(4), 6);
        feed(x, "!");
        is(x.text(), FULL);
        is(x.count(4), 7);
        is(x.count(3), 6);
        says("by a FAULT no room is taken");
        x = new DogsOnLeads();
        for (int i = 0; i < 7; i++) is(read(x, "odds"), -104);
        for (int i = 1; i <= 5; i++) is(read(x, "odds 0;worth 0;minds 0;"), i);
        is(x.text(), FULL);
    }

    private static void names() {
        says("one, other: their numbers (the one of the lesser number first)");
        DogsOnLeads x = plain(9, 1, 5, 5, 5, 1);
        rule(x, "one*10+other", "near", "hand");
        is(x.asks(0, 1, 0), 1);
        is(x.asks(5, 4, 0), 45);
        is(x.asks(4, 5, 0), 45);
        is(x.asks(5, 0, 0), 5);
        says("near: how far their places are apart; hand: the place of the first one");
        is(x.asks(0, 5, 1), 5);
        is(x.asks(5, 0, 1), 5);
        is(x.asks(4, 5, 1), 1);
        is(x.asks(5, 4, 2), 4);
        is(x.asks(5, 0, 2), 0);
        cross(x, 1, 0, 1, 2, 3, 4);
        is(x.asks(0, 5, 1), 1);
        is(x.asks(0, 1, 1), 5);
        is(x.asks(0, 1, 2), 5);
        is(x.asks(1, 2, 2), 0);
        says("many: how many dogs; pace: how far their PACES are apart");
        x = plain(9, 1);
        rule(x, "many", "pace", "0");
        is(x.asks(0, 1, 0), 2);
        is(x.asks(0, 1, 1), 8);
        for (int n = 3; n <= 6; n++) {
            x.dog(0, 90, 0);
            is(x.asks(0, 1, 0), n);
        }
        is(x.asks(0, 2, 1), 0);
    }

    private static void bounds() {
        says("odds: 0 .. 99, else the bound; worth: -99 .. 99, else the bound; minds: 0 .. 99, else the bound");
        String[] es = {"0-9999", "0-100", "0-99", "0-98", "0-1", "0", "1", "98", "99", "100", "9999"};
        int[] bounded = {-99, -99, -99, -98, -1, 0, 1, 98, 99, 99, 99};
        for (int i = 0; i < es.length; i++) {
            DogsOnLeads x = many(2);
            rule(x, es[i], es[i], es[i]);
            is(x.asks(0, 1, 0), Math.max(0, bounded[i]));
            is(x.asks(0, 1, 1), bounded[i]);
            is(x.asks(0, 1, 2), Math.max(0, bounded[i]));
        }
        says("the bound of the least and the greatest int");
        DogsOnLeads x = many(2);
        String least = "2048*2048*512";
        rule(x, least, least, least);
        is(x.asks(0, 1, 0), 0);
        is(x.asks(0, 1, 1), -99);
        is(x.asks(0, 1, 2), 0);
        String most = "2048*2048*512-1";
        rule(x, most, most, most);
        for (int what = 0; what <= 2; what++) is(x.asks(0, 1, what), 99);
        says("an E is bounded when all of it is told, not its parts");
        is(odds("500-450"), 50);
        is(odds("0-50+60"), 10);
    }

    private static void wrapping() {
        says("An E is an int (32 bits, wrapping)");
        String least = "2048*2048*512", most = "(" + least + "-1)";
        is(odds(least + " < 0"), 1);
        is(odds(most + " < 0"), 0);
        is(odds(most + "+1 = " + least), 1);
        is(odds("0-" + least + " = " + least), 1);
        is(odds("-(" + least + ") = " + least), 1);
        is(odds("-" + most + "-2 = " + most), 1);
        is(odds("2048*2048*1024"), 0);
        is(odds("2048*2048*1024 + 7"), 7);
        // 9999 * 9999 * 9999 is 999700029999, that is 233 * 2 ^ 32 less 1027349969.
        is(odds("9999*9999*9999 < 0"), 1);
        is(odds("9999*9999*9999+1027*1000*1000+3499*100+69"), 0);
        is(odds("9999*9999*9999+1027*1000*1000+3499*100+69+42"), 42);
        says("< and = of the least and the greatest");
        is(odds(least + " < " + most), 1);
        is(odds(most + " < " + least), 0);
        is(odds(least + " < " + least), 0);
        is(odds(most + " = " + most), 1);
    }

    private static void truths() {
        says("of or, and, not, <, = 1 or 0 (what is not 0 is true)");
        for (String yes : new String[] {"1", "2", "9999", "(0-1)", "(2048*2048*512)"}) {
            is(odds(yes + " or 0"), 1);
            is(odds("0 or " + yes), 1);
            is(odds(yes + " and " + yes), 1);
            is(odds(yes + " and 0"), 0);
            is(odds("0 and " + yes), 0);
            is(odds("not " + yes), 0);
            is(odds("not not " + yes), 1);
        }
        is(odds("0 or 0"), 0);
        is(odds("0 and 0"), 0);
        is(odds("not 0"), 1);
        is(odds("not (2048*2048*1024)"), 1);
        says("< and =: one less, alike, one more");
        is(odds("4 < 5"), 1);
        is(odds("5 < 5"), 0);
        is(odds("6 < 5"), 0);
        is(odds("4 = 5"), 0);
        is(odds("5 = 5"), 1);
        is(odds("6 = 5"), 0);
        is(odds("-1 < 0"), 1);
        is(odds("0 < -1"), 0);
        says("what is alone stays as it is");
        is(odds("7"), 7);
        is(odds("(7)"), 7);
        is(odds("--7"), 7);
    }

    private static void binding() {
        says("E: AND { or AND }; AND: NOT { and NOT }; NOT: not NOT, or SUM; SUM; TERM; ONE");
        is(odds("1 or 1 and 0"), 1);
        is(odds("(1 or 1) and 0"), 0);
        is(odds("0 and 1 or 1"), 1);
        is(odds("not 1 or 1"), 1);
        is(odds("not (1 or 1)"), 0);
        is(odds("not 0 and 0"), 0);
        is(odds("not 5 = 4"), 1);
        is(odds("1 + 1 < 1 + 2"), 1);
        is(odds("2 + 3 * 4"), 14);
        is(odds("2 * 3 + 4"), 10);
        is(odds("9 - 3 - 2"), 4);
        is(odds("9 - (3 - 2)"), 8);
        is(odds("9 - 3 + 2"), 8);
        is(odds("- 2 + 9"), 7);
        is(odds("- 2 * - 9"), 18);
        is(odds("9 - - 2"), 11);
        says("each of the three parts is its own");
        DogsOnLeads x = many(2);
        rule(x, "11", "0-22", "33");
        is(x.asks(0, 1, 0), 11);
        is(x.asks(0, 1, 1), -22);
        is(x.asks(0, 1, 2), 33);
    }

    private static void rules() {
        says("A TEXT is THE RULE: which was. BAD");
        DogsOnLeads x = many(2);
        is(x.force(0), 0);
        is(x.force(-1), BAD);
        is(x.force(1), BAD);
        is(x.force(LEAST_INT), BAD);
        is(x.force(MOST_INT), BAD);
        for (int i = 1; i <= 5; i++) {
            is(x.force(i), BAD);
            is(read(x, "odds " + i + REST), i);
            is(x.force(i), i - 1);
            is(x.asks(0, 1, 0), i);
        }
        is(x.force(6), BAD);
        is(x.count(5), 5);
        is(x.force(0), 5);
        is(x.asks(0, 1, 0), 0);
        says("a TEXT that comes, or is faulty, is not yet THE RULE");
        x = many(2);
        read(x, "odds 50" + REST);
        is(x.count(5), 0);
        is(x.asks(0, 1, 0), 0);
        x.force(1);
        read(x, "odds 70;worth 70;minds 70");
        is(x.asks(0, 1, 0), 50);
        says("TEXT 0: odds pace ; worth 10 - pace ; minds 1 ;");
        x = plain(1, 9);
        is(x.asks(0, 1, 0), 8);
        is(x.asks(0, 1, 1), 2);
        is(x.asks(0, 1, 2), 1);
        x.set(1, 0, 1);
        is(x.asks(0, 1, 0), 0);
        is(x.asks(0, 1, 1), 10);
    }
}
