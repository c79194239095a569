/** What the edge tests share: each row belongs to a sentence of the document and holds an answer against what is due. */
abstract class Edge {
    static final int NONE = -1, BAD = -2, STATE = -3, FULL = -4;
    static final int NOTHING = -11, OUTSIDE = -12, OTHER_SORT = -13, BELOW_NOTHING = -14, NONE_SUCH = -100000;
    static final long NO = -4611686018427387904L;
    static final int LEAST_INT = Integer.MIN_VALUE, MOST_INT = Integer.MAX_VALUE;

    private static int wrong = 0;
    private static int sentences = 0;
    private static int row = 0;
    private static String sentence = "";

    Edge() {}

    /** The sentence that the rows from here on are about. */
    static void says(String words) {
        sentence = words;
        sentences++;
        row = 0;
    }

    static void is(long got, long want) {
        row++;
        if (got != want) {
            wrong++;
            System.out.println("\"" + sentence + "\", row " + row + ": answered " + got + ", due is " + want);
        }
    }

    static void same(String got, String want, String after) {
        row++;
        if (!got.equals(want)) {
            wrong++;
            System.out.println("\"" + sentence + "\", after " + after + ":\n  is " + got + "\n  was " + want);
        }
    }

    static void finish() {
        System.out.println(wrong == 0 ? sentences + " sentences hold" : wrong + " rows do not hold");
        if (wrong != 0) System.exit(1);
    }

    /** Dogs of kind DOG, NUMBER 0, HOUSE 0. */
    static DogsOnLeads plain(int... paces) {
        DogsOnLeads x = new DogsOnLeads();
        for (int pace : paces) x.dog(0, 10 * pace, 0);
        return x;
    }

    static DogsOnLeads many(int dogs) {
        DogsOnLeads x = new DogsOnLeads();
        for (int i = 0; i < dogs; i++) x.dog(0, 10, 0);
        return x;
    }

    /** The tape becomes (or goes on with) these bytes, and is read. */
    static int read(DogsOnLeads x, String text) {
        feed(x, text);
        return x.text();
    }

    static void feed(DogsOnLeads x, String text) {
        for (int i = 0; i < text.length(); i++) x.feed(text.charAt(i));
    }

    /** A text of these three parts is the rule. */
    static void rule(DogsOnLeads x, String odds, String worth, String minds) {
        x.force(read(x, "odds " + odds + ";worth " + worth + ";minds " + minds + ";"));
    }

    static void cross(DogsOnLeads x, int over, int... places) {
        for (int p : places) x.cross(p, over);
    }

    /** A sheet of ints that tells these numbers. */
    static void order(DogsOnLeads x, int sheet, int... numbers) {
        row(x, sheet, 2, numbers);
    }

    static void row(DogsOnLeads x, int sheet, int sort, int... numbers) {
        x.sheet(sheet, sort, numbers.length);
        for (int i = 0; i < numbers.length; i++) x.cell(sheet, i, numbers[i]);
    }

    static void hand(DogsOnLeads x, int... dogs) {
        for (int i = 0; i < dogs.length; i++) is(x.at(i), dogs[i]);
        is(x.at(dogs.length), BAD);
    }

    /** What is left, each as left() tells it. */
    static void tangle(DogsOnLeads x, int... crossings) {
        is(x.count(2), crossings.length);
        for (int i = 0; i < crossings.length; i++) is(x.left(i), crossings[i]);
        is(x.left(crossings.length), NONE);
    }
}
