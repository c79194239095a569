/** Dogs on leads in a hand: their crossings, their tempers by a rule of texts, their orders, walks and posts. */
public final class DogsOnLeads {
    public static final int NONE = -1, BAD = -2, STATE = -3, FULL = -4;
    public static final long NO = -4611686018427387904L;

    private static final int NONE_SUCH = -100000;
    private static final int NOTHING = -11, OUTSIDE = -12, OTHER_SORT = -13, BELOW_NOTHING = -14;

    private static final int MOST_DOGS = 6, MOST_CROSSINGS = 40, MOST_BYTES = 160, MOST_TEXTS = 6;
    private static final int MOST_SHEETS = 4, MOST_CELLS = 40, MOST_AT_ONCE = 20, MOST_SEEDS = 20, MOST_SEEN = 4;

    private static final int DOG = 0, PULLER = 1, OLD = 2, ROUND = 3, CALM = 4, YOUNG = 5;
    private static final int[] KIND_ABOVE = {-1, DOG, DOG, PULLER, OLD, PULLER};

    private static final int MISSING = -1, BYTES = 0, SHORTS = 1, INTS = 2;

    private static final int ODDS_PART = 0, WORTH_PART = 1, MINDS_PART = 2, PARTS = 3;
    private static final int[] LEAST_OF_PART = {0, -99, 0};
    private static final int[] MOST_OF_PART = {99, 99, 99};
    private static final String FIRST_TEXT = "odds pace ; worth 10 - pace ; minds 1 ;";

    private final Pack pack = new Pack();
    private final Pack kept = new Pack();
    private boolean hasImage = false;
    private final Row tangle = new Row();
    private final Row thought = new Row();
    private final Orders orders = new Orders();
    private final Reader reader = new Reader();
    private final Text[] texts = new Text[MOST_TEXTS];
    private int textCount = 0;
    private final int[] names = new int[Token.NAMES];
    private final Sheet[] sheets = new Sheet[MOST_SHEETS];
    private final int[] trialOrder = new int[MOST_DOGS];
    private final int[] trialPlaces = new int[MOST_SEEN];
    private final int[] worths = new int[MOST_DOGS * MOST_DOGS];

    public DogsOnLeads() {
        for (int i = 0; i < MOST_TEXTS; i++) {
            texts[i] = new Text();
        }
        for (int i = 0; i < MOST_SHEETS; i++) {
            sheets[i] = new Sheet();
        }
        for (int i = 0; i < FIRST_TEXT.length(); i++) {
            reader.append(FIRST_TEXT.charAt(i));
        }
        reader.readInto(texts[0]);
        textCount = 1;
    }

    // ---- dogs

    public int dog(int kind, int what, int house) {
        if (!isWithin(kind, DOG, YOUNG) || !isWithin(what, 10, 99) || !isWithin(house, 0, 99)) {
            return BAD;
        }
        if (pack.plait.size > 0) {
            return STATE;
        }
        if (pack.size >= MOST_DOGS) {
            return FULL;
        }
        return pack.join(kind, what / 10, what % 10, house);
    }

    public int set(int dog, int what, int v) {
        if (!isDog(dog)) {
            return BAD;
        }
        switch (what) {
            case 0:
                return isWithin(v, 1, 9) ? replace(pack.paces, dog, v) : BAD;
            case 1:
                return isWithin(v, 0, 9) ? replace(pack.numbers, dog, v) : BAD;
            case 2:
                return isWithin(v, 0, 99) ? replace(pack.houses, dog, v) : BAD;
            default:
                return BAD;
        }
    }

    public int told(int dog, int what) {
        if (!isDog(dog)) {
            return BAD;
        }
        switch (what) {
            case 0:
                return pack.paces[dog];
            case 1:
                return pack.numbers[dog];
            case 2:
                return pack.houses[dog];
            case 3:
                return pack.kinds[dog];
            case 4:
                return pack.placeOf(dog);
            case 5:
                return pack.pulls(dog, pack.placeOf(dog));
            default:
                return BAD;
        }
    }

    public int asks(int a, int b, int what) {
        if (!isDog(a) || !isDog(b) || a == b || !isWithin(what, ODDS_PART, MINDS_PART)) {
            return NONE_SUCH;
        }
        return ruledInHand(what, a, b);
    }

    // ---- texts

    public int feed(int letter) {
        if (!isWithin(letter, 0, 255)) {
            return BAD;
        }
        if (reader.size >= MOST_BYTES) {
            return FULL;
        }
        reader.append(letter);
        return reader.size;
    }

    public int text() {
        if (textCount >= MOST_TEXTS) {
            return FULL;
        }
        int fault = reader.readInto(texts[textCount]);
        if (fault >= 0) {
            return -100 - fault;
        }
        textCount++;
        return textCount - 1;
    }

    public int force(int text) {
        if (!isWithin(text, 0, textCount - 1)) {
            return BAD;
        }
        int before = pack.rule;
        pack.rule = text;
        return before;
    }

    // ---- crossings

    public int cross(int p, int over) {
        if (!isWithin(p, 0, pack.size - 2) || !isWithin(over, 0, 1)) {
            return BAD;
        }
        if (pack.plait.size >= MOST_CROSSINGS) {
            return FULL;
        }
        pack.plait.put(p, over, pack.order[p], pack.order[p + 1], pack.dogsBefore(p));
        pack.changePlaces(p);
        return pack.plait.size;
    }

    public int undo() {
        Row plait = pack.plait;
        if (plait.size <= 0) {
            return STATE;
        }
        pack.changePlaces(plait.places[plait.size - 1]);
        plait.size--;
        return plait.size;
    }

    public int comb() {
        int before = pack.plait.size;
        makeTangle();
        pack.plait.become(tangle);
        return before - tangle.size;
    }

    public int at(int place) {
        return isWithin(place, 0, pack.size - 1) ? pack.order[place] : BAD;
    }

    public int left(int i) {
        makeTangle();
        if (!isWithin(i, 0, tangle.size - 1)) {
            return NONE;
        }
        return 10 * tangle.places[i] + tangle.overs[i];
    }

    public int who(int a, int b) {
        if (!isDog(a) || !isDog(b)) {
            return BAD;
        }
        makeTangle();
        int both = bit(a) | bit(b);
        int many = 0;
        for (int i = 0; i < tangle.size; i++) {
            if ((tangle.dogsOf(i) & both) == both) {
                many++;
            }
        }
        return a == b ? Math.min(many, 1) : many;
    }

    public int without(int set) {
        if (!isWithin(set, 0, allDogs())) {
            return BAD;
        }
        return leftWithout(set);
    }

    public int unclip(int what) {
        if (!isWithin(what, 0, 1)) {
            return BAD;
        }
        // Without any dog nothing is left, so all of them are a set to begin with.
        int fewest = allDogs();
        for (int set = 0; set < allDogs(); set++) {
            if (Integer.bitCount(set) < Integer.bitCount(fewest) && leftWithout(set) == 0) {
                fewest = set;
            }
        }
        return what == 0 ? fewest : Integer.bitCount(fewest);
    }

    public int cost() {
        makeTangle();
        int sum = 0;
        for (int i = 0; i < tangle.size; i++) {
            sum += ruledInHand(MINDS_PART, tangle.ones[i], tangle.others[i]);
        }
        return sum;
    }

    // ---- orders, posts

    public int atOdds(int what) {
        if (!isWithin(what, 0, 1)) {
            return BAD;
        }
        return what == 0 ? oddsInHand() : findBestOrder();
    }

    public int best(int place) {
        if (!isWithin(place, 0, pack.size - 1)) {
            return BAD;
        }
        findBestOrder();
        return orders.found[place];
    }

    public int swaps(int sheet) {
        int refusal = refusalOfOrder(sheet);
        if (refusal != 0) {
            return refusal;
        }
        Sheet goal = sheets[sheet];
        int many = 0;
        for (int i = 0; i < goal.size; i++) {
            for (int j = i + 1; j < goal.size; j++) {
                if (pack.placeOf(goal.items[i]) > pack.placeOf(goal.items[j])) {
                    many++;
                }
            }
        }
        return many;
    }

    public int post(int s, int what) {
        if (!isWithin(s, 0, pack.size)) {
            return NONE_SUCH;
        }
        switch (what) {
            case 0:
                return dogsOnRight(s);
            case 1:
                return woundAt(s);
            case 2:
                return pullsTogether(s);
            default:
                return NONE_SUCH;
        }
    }

    public int bestPost(int what) {
        if (!isWithin(what, 0, 1)) {
            return BAD;
        }
        int bestPlace = 0;
        int fewest = woundAt(0);
        for (int s = 1; s <= pack.size; s++) {
            int wound = woundAt(s);
            if (wound < fewest) {
                fewest = wound;
                bestPlace = s;
            }
        }
        return what == 0 ? bestPlace : fewest;
    }

    public int seen(int sheet, int k, int what) {
        int refusal = refusalOfOrder(sheet);
        if (refusal != 0) {
            return refusal;
        }
        if (!isWithin(k, 0, MOST_SEEN) || !isWithin(what, 0, 1)) {
            return BAD;
        }
        for (int place = 0; place < pack.size; place++) {
            trialOrder[place] = pack.order[place];
        }
        return rowsLeadingTo(sheets[sheet], 0, k, what == 1);
    }

    // ---- houses

    public int fetch() {
        return findFetchOrder();
    }

    public int fetched(int place) {
        if (!isWithin(place, 0, pack.size - 1)) {
            return BAD;
        }
        findFetchOrder();
        return orders.found[place];
    }

    public int walk() {
        orders.begin(pack.size);
        for (int one = 0; one < pack.size; one++) {
            for (int other = one + 1; other < pack.size; other++) {
                int odds = ruled(ODDS_PART, one, other, 1, pack.placeOf(one));
                orders.priceEverywhere(one, other, odds);
                orders.priceEverywhere(other, one, odds);
            }
        }
        return orders.search();
    }

    public int take(int what) {
        if (!isWithin(what, 0, 1)) {
            return NONE_SUCH;
        }
        findWorths();
        int bestSet = 0;
        int most = 0;
        for (int set = 1; set <= allDogs(); set++) {
            int worth = worthOf(set);
            if (worth > most) {
                most = worth;
                bestSet = set;
            }
        }
        return what == 0 ? bestSet : most;
    }

    public int drawn(int seed, int n) {
        return isWithin(n, 0, MOST_CROSSINGS) ? leftOfDrawn(seed, n) : BAD;
    }

    public long chance(int seed, int many, int n, int most, int part) {
        if (!isWithin(many, 1, MOST_SEEDS) || !isWithin(n, 0, MOST_CROSSINGS)
                || !isWithin(most, 0, MOST_CROSSINGS) || !isWithin(part, 0, 1)) {
            return NO;
        }
        int above = 0;
        for (int i = 0; i < many; i++) {
            if (leftOfDrawn(seed + i, n) <= most) {
                above++;
            }
        }
        int divisor = greatestDivisor(above, many);
        return (part == 0 ? above : many) / divisor;
    }

    public int image() {
        kept.become(pack);
        hasImage = true;
        return pack.size;
    }

    public int back() {
        if (!hasImage) {
            return STATE;
        }
        pack.become(kept);
        return pack.size;
    }

    public int count(int what) {
        switch (what) {
            case 0:
                return pack.size;
            case 1:
                return pack.plait.size;
            case 2:
                makeTangle();
                return tangle.size;
            case 3:
                return textCount;
            case 4:
                return reader.size;
            case 5:
                return pack.rule;
            default:
                return BAD;
        }
    }

    // ---- the host

    public int sheet(int sheet, int sort, int n) {
        if (!isSheet(sheet) || !isWithin(sort, MISSING, INTS)) {
            return BAD;
        }
        if (sort == MISSING) {
            sheets[sheet].become(MISSING, 0);
            return 1;
        }
        if (n > MOST_CELLS) {
            return BAD;
        }
        if (n < 0) {
            return BELOW_NOTHING;
        }
        sheets[sheet].become(sort, n);
        return 1;
    }

    public int cell(int sheet, int i, int v) {
        if (!isSheet(sheet)) {
            return BAD;
        }
        Sheet row = sheets[sheet];
        if (row.sort == MISSING) {
            return NOTHING;
        }
        if (!row.holds(i)) {
            return OUTSIDE;
        }
        row.write(i, v);
        return 1;
    }

    public int copy(int sheet, int i, int other, int j, int n) {
        if (!isSheet(sheet) || !isSheet(other)) {
            return BAD;
        }
        Sheet source = sheets[sheet];
        Sheet goal = sheets[other];
        if (source.sort == MISSING || goal.sort == MISSING) {
            return NOTHING;
        }
        if (source.sort != goal.sort) {
            return OTHER_SORT;
        }
        if (!source.holdsStretch(i, n) || !goal.holdsStretch(j, n)) {
            return OUTSIDE;
        }
        System.arraycopy(source.items, i, goal.items, j, n);
        return n;
    }

    public int crossings(int sheet, int sort, int from, int n) {
        if (!isSheet(sheet) || !isWithin(sort, BYTES, INTS) || !isWithin(n, 0, MOST_AT_ONCE)) {
            return BAD;
        }
        Sheet row = sheets[sheet];
        // A missing sheet can be taken for one of any sort; only its use is refused.
        if (row.sort != MISSING && row.sort != sort) {
            return OTHER_SORT;
        }
        if (row.sort == MISSING) {
            return NOTHING;
        }
        int came = 0;
        for (int i = 0; i < n; i++) {
            int item = from + 2 * i;
            if (!row.holds(item) || !row.holds(item + 1)) {
                return OUTSIDE;
            }
            if (cross(row.items[item], row.items[item + 1]) > 0) {
                came++;
            }
        }
        return came;
    }

    public int taken(int dog, int k) {
        if (!isWithin(k, DOG, YOUNG)) {
            return BAD;
        }
        if (!isDog(dog)) {
            return NOTHING;
        }
        return isUnder(pack.kinds[dog], k) ? pack.numbers[dog] : OTHER_SORT;
    }

    // ---- small questions

    private static boolean isWithin(int v, int least, int most) {
        return v >= least && v <= most;
    }

    private boolean isDog(int dog) {
        return isWithin(dog, 0, pack.size - 1);
    }

    private static boolean isSheet(int sheet) {
        return isWithin(sheet, 0, MOST_SHEETS - 1);
    }

    private static int bit(int dog) {
        return 1 << dog;
    }

    private int allDogs() {
        return bit(pack.size) - 1;
    }

    private static boolean isUnder(int kind, int above) {
        int k = kind;
        for (int step = 0; step < KIND_ABOVE.length && isWithin(k, DOG, YOUNG); step++) {
            if (k == above) {
                return true;
            }
            k = KIND_ABOVE[k];
        }
        return false;
    }

    private static int replace(int[] row, int i, int v) {
        int before = row[i];
        row[i] = v;
        return before;
    }

    private static int greatestDivisor(int a, int b) {
        int greater = a;
        int lesser = b;
        for (int step = 0; step < 64 && lesser != 0; step++) {
            int rest = greater % lesser;
            greater = lesser;
            lesser = rest;
        }
        return greater == 0 ? 1 : greater;
    }

    // ---- the rule

    private int ruled(int part, int a, int b, int near, int hand) {
        names[Token.ONE] = Math.min(a, b);
        names[Token.OTHER] = Math.max(a, b);
        names[Token.PACE] = Math.abs(pack.paces[a] - pack.paces[b]);
        names[Token.NEAR] = near;
        names[Token.MANY] = pack.size;
        names[Token.HAND] = hand;
        int value = texts[pack.rule].valueOf(part, names);
        return Math.max(LEAST_OF_PART[part], Math.min(MOST_OF_PART[part], value));
    }

    private int ruledInHand(int part, int a, int b) {
        int near = Math.abs(pack.placeOf(a) - pack.placeOf(b));
        return ruled(part, a, b, near, pack.placeOf(Math.min(a, b)));
    }

    private int oddsInHand() {
        int sum = 0;
        for (int place = 0; place + 1 < pack.size; place++) {
            sum += ruledInHand(ODDS_PART, pack.order[place], pack.order[place + 1]);
        }
        return sum;
    }

    private void findWorths() {
        for (int one = 0; one < pack.size; one++) {
            for (int other = one + 1; other < pack.size; other++) {
                worths[one * MOST_DOGS + other] = ruledInHand(WORTH_PART, one, other);
            }
        }
    }

    private int worthOf(int set) {
        int sum = 0;
        for (int one = 0; one < pack.size; one++) {
            if ((set & bit(one)) == 0) {
                continue;
            }
            sum -= 3 * pack.paces[one];
            for (int other = one + 1; other < pack.size; other++) {
                if ((set & bit(other)) != 0) {
                    sum += worths[one * MOST_DOGS + other];
                }
            }
        }
        return sum;
    }

    // ---- what is left

    private void makeTangle() {
        Row plait = pack.plait;
        tangle.size = 0;
        for (int i = 0; i < plait.size; i++) {
            tangle.lay(plait.places[i], plait.overs[i], plait.ones[i], plait.others[i], plait.before[i]);
        }
    }

    private int leftWithout(int set) {
        Row plait = pack.plait;
        thought.size = 0;
        for (int i = 0; i < plait.size; i++) {
            if ((plait.dogsOf(i) & set) == 0) {
                thought.lay(Integer.bitCount(plait.before[i] & ~set), plait.overs[i], 0, 0, 0);
            }
        }
        return thought.size;
    }

    private int leftOfDrawn(int seed, int n) {
        int places = pack.size - 1;
        if (places < 1) {
            return 0;
        }
        thought.size = 0;
        int z = seed;
        for (int i = 0; i < n; i++) {
            z = z * 1103515245 + 12345;
            thought.lay((z >>> 8) % places, (z >>> 16) % 2, 0, 0, 0);
        }
        return thought.size;
    }

    // ---- orders

    private int refusalOfOrder(int sheet) {
        if (!isSheet(sheet)) {
            return BAD;
        }
        Sheet goal = sheets[sheet];
        if (goal.sort == MISSING) {
            return NOTHING;
        }
        if (goal.size != pack.size) {
            return BAD;
        }
        int met = 0;
        for (int i = 0; i < goal.size; i++) {
            if (!isDog(goal.items[i])) {
                return BAD;
            }
            met |= bit(goal.items[i]);
        }
        return met == allDogs() ? 0 : BAD;
    }

    private int findBestOrder() {
        orders.begin(pack.size);
        for (int place = 0; place + 1 < pack.size; place++) {
            for (int former = 0; former < pack.size; former++) {
                for (int latter = 0; latter < pack.size; latter++) {
                    if (former != latter) {
                        int hand = former < latter ? place : place + 1;
                        orders.price(place, former, latter, ruled(ODDS_PART, former, latter, 1, hand));
                    }
                }
            }
        }
        return orders.search();
    }

    private int findFetchOrder() {
        orders.begin(pack.size);
        for (int former = 0; former < pack.size; former++) {
            orders.ends[former] = pack.houses[former];
            for (int latter = 0; latter < pack.size; latter++) {
                orders.priceEverywhere(former, latter, Math.abs(pack.houses[former] - pack.houses[latter]));
            }
        }
        return orders.search();
    }

    // Over and under never change who stands where, so only the places are tried, and each counts for its sorts.
    private int rowsLeadingTo(Sheet goal, int done, int k, boolean allLeft) {
        if (done >= k || done >= MOST_SEEN) {
            return isTrialOrder(goal) ? 1 : 0;
        }
        int sum = 0;
        for (int place = 0; place + 1 < pack.size; place++) {
            int sorts = allLeft && wouldMeetItsPlace(place, done) ? 1 : 2;
            trialPlaces[done] = place;
            changeTrial(place);
            sum += sorts * rowsLeadingTo(goal, done + 1, k, allLeft);
            changeTrial(place);
        }
        return sum;
    }

    // Where all are left, none is gone yet, so the last near one is found among all that came.
    private boolean wouldMeetItsPlace(int place, int done) {
        for (int i = Math.min(done, MOST_SEEN) - 1; i >= 0; i--) {
            if (Math.abs(trialPlaces[i] - place) < 2) {
                return trialPlaces[i] == place;
            }
        }
        return false;
    }

    private boolean isTrialOrder(Sheet goal) {
        for (int place = 0; place < pack.size; place++) {
            if (trialOrder[place] != goal.items[place]) {
                return false;
            }
        }
        return true;
    }

    private void changeTrial(int place) {
        int former = trialOrder[place];
        trialOrder[place] = trialOrder[place + 1];
        trialOrder[place + 1] = former;
    }

    // ---- posts

    private int dogsOnRight(int s) {
        int dogs = 0;
        for (int place = 0; place < pack.size; place++) {
            if (pack.passesRight(pack.order[place], place, s)) {
                dogs |= bit(pack.order[place]);
            }
        }
        return dogs;
    }

    private int woundAt(int s) {
        int wound = 0;
        int rightSoFar = 0;
        for (int place = 0; place < pack.size; place++) {
            if (pack.passesRight(pack.order[place], place, s)) {
                rightSoFar++;
            } else {
                wound += rightSoFar;
            }
        }
        return wound;
    }

    private int pullsTogether(int s) {
        int sum = 0;
        for (int place = 0; place < pack.size; place++) {
            int dog = pack.order[place];
            int pulls = pack.pulls(dog, place);
            sum += pack.passesRight(dog, place, s) ? pulls : -pulls;
        }
        return sum;
    }

    /** The dogs, the hand, the plait and the rule: just what an image keeps. */
    private static final class Pack {
        final int[] kinds = new int[MOST_DOGS];
        final int[] paces = new int[MOST_DOGS];
        final int[] numbers = new int[MOST_DOGS];
        final int[] houses = new int[MOST_DOGS];
        final int[] order = new int[MOST_DOGS];
        final Row plait = new Row();
        int size = 0;
        int rule = 0;

        int join(int kind, int pace, int number, int house) {
            if (size >= MOST_DOGS) {
                return FULL;
            }
            kinds[size] = kind;
            paces[size] = pace;
            numbers[size] = number;
            houses[size] = house;
            order[size] = size;
            size++;
            return size - 1;
        }

        void become(Pack other) {
            for (int i = 0; i < MOST_DOGS; i++) {
                kinds[i] = other.kinds[i];
                paces[i] = other.paces[i];
                numbers[i] = other.numbers[i];
                houses[i] = other.houses[i];
                order[i] = other.order[i];
            }
            plait.become(other.plait);
            size = other.size;
            rule = other.rule;
        }

        int placeOf(int dog) {
            for (int place = 0; place < size; place++) {
                if (order[place] == dog) {
                    return place;
                }
            }
            return 0;
        }

        int dogsBefore(int place) {
            int dogs = 0;
            for (int i = 0; i < place && i < size; i++) {
                dogs |= bit(order[i]);
            }
            return dogs;
        }

        void changePlaces(int place) {
            if (!isWithin(place, 0, size - 2)) {
                return;
            }
            int former = order[place];
            order[place] = order[place + 1];
            order[place + 1] = former;
        }

        int pulls(int dog, int place) {
            return Math.max(0, pullsAs(kinds[dog], dog, place));
        }

        private int pullsAs(int kind, int dog, int place) {
            int asPuller = paces[dog] + numbers[dog];
            switch (kind) {
                case PULLER:
                    return asPuller;
                case OLD:
                    return paces[dog] / 2;
                case ROUND:
                    return asPuller + place;
                case CALM:
                    return paces[dog] / 2 - 2;
                case YOUNG:
                    return 2 * asPuller - place;
                default:
                    return paces[dog];
            }
        }

        boolean passesRight(int dog, int place, int s) {
            boolean asPuller = place + (numbers[dog] > 4 ? 1 : 0) >= s;
            switch (kinds[dog]) {
                case PULLER:
                    return asPuller;
                case ROUND:
                    return false;
                case CALM:
                    return place >= s || place == 0;
                case YOUNG:
                    return place % 2 == 0 ? !asPuller : asPuller;
                default:
                    return place >= s;
            }
        }
    }

    /** Crossings one behind the other, each with its two dogs and those (bits) who were at lesser places. */
    private static final class Row {
        final int[] places = new int[MOST_CROSSINGS];
        final int[] overs = new int[MOST_CROSSINGS];
        final int[] ones = new int[MOST_CROSSINGS];
        final int[] others = new int[MOST_CROSSINGS];
        final int[] before = new int[MOST_CROSSINGS];
        int size = 0;

        void put(int place, int over, int one, int other, int dogsBefore) {
            if (size >= MOST_CROSSINGS) {
                return;
            }
            places[size] = place;
            overs[size] = over;
            ones[size] = one;
            others[size] = other;
            before[size] = dogsBefore;
            size++;
        }

        // What goes never moves the dogs of what stays, so a crossing keeps those with whom it came.
        void lay(int place, int over, int one, int other, int dogsBefore) {
            int near = lastNear(place);
            if (near >= 0 && places[near] == place && overs[near] != over) {
                remove(near);
            } else {
                put(place, over, one, other, dogsBefore);
            }
        }

        private int lastNear(int place) {
            for (int i = size - 1; i >= 0; i--) {
                if (Math.abs(places[i] - place) < 2) {
                    return i;
                }
            }
            return -1;
        }

        private void remove(int gone) {
            for (int i = gone; i + 1 < size; i++) {
                takeOver(i, this, i + 1);
            }
            size--;
        }

        void become(Row other) {
            size = other.size;
            for (int i = 0; i < size; i++) {
                takeOver(i, other, i);
            }
        }

        private void takeOver(int i, Row from, int j) {
            places[i] = from.places[j];
            overs[i] = from.overs[j];
            ones[i] = from.ones[j];
            others[i] = from.others[j];
            before[i] = from.before[j];
        }

        int dogsOf(int i) {
            return bit(ones[i]) | bit(others[i]);
        }
    }

    /** Looks through all orders of the dogs for the first of those that come to the least together. */
    private static final class Orders {
        private static final int MORE_THAN_ANY = 1000000;
        final int[] ends = new int[MOST_DOGS];
        final int[] found = new int[MOST_DOGS];
        private final int[] prices = new int[MOST_DOGS * MOST_DOGS * MOST_DOGS];
        private final int[] trial = new int[MOST_DOGS];
        private int size = 0;
        private int least = 0;

        void begin(int dogs) {
            size = Math.max(0, Math.min(MOST_DOGS, dogs));
            for (int i = 0; i < MOST_DOGS; i++) {
                ends[i] = 0;
            }
        }

        void price(int place, int former, int latter, int value) {
            prices[slot(place, former, latter)] = value;
        }

        void priceEverywhere(int former, int latter, int value) {
            for (int place = 0; place < size; place++) {
                price(place, former, latter, value);
            }
        }

        private static int slot(int place, int former, int latter) {
            return (place * MOST_DOGS + former) * MOST_DOGS + latter;
        }

        int search() {
            if (size == 0) {
                return 0;
            }
            least = MORE_THAN_ANY;
            extend(0, 0, 0);
            return least;
        }

        // No price is below 0, so what has come to the least already can't become better.
        private void extend(int place, int used, int sum) {
            if (sum >= least) {
                return;
            }
            if (place >= size) {
                least = sum;
                for (int i = 0; i < size; i++) {
                    found[i] = trial[i];
                }
                return;
            }
            for (int dog = 0; dog < size; dog++) {
                if ((used & bit(dog)) == 0) {
                    trial[place] = dog;
                    extend(place + 1, used | bit(dog), sum + priceAt(place, dog));
                }
            }
        }

        private int priceAt(int place, int dog) {
            int price = place == 0 ? ends[dog] : prices[slot(place - 1, trial[place - 1], dog)];
            return place == size - 1 ? price + ends[dog] : price;
        }
    }

    /** A row of numbers, or missing. */
    private static final class Sheet {
        final int[] items = new int[MOST_CELLS];
        int sort = MISSING;
        int size = 0;

        void become(int newSort, int n) {
            sort = newSort;
            size = Math.max(0, Math.min(MOST_CELLS, n));
            for (int i = 0; i < MOST_CELLS; i++) {
                items[i] = 0;
            }
        }

        boolean holds(int i) {
            return isWithin(i, 0, size - 1);
        }

        boolean holdsStretch(int from, int n) {
            return n >= 0 && n <= size && from >= 0 && from <= size - n;
        }

        void write(int i, int v) {
            if (!holds(i)) {
                return;
            }
            switch (sort) {
                case BYTES:
                    items[i] = (byte) v;
                    break;
                case SHORTS:
                    items[i] = (short) v;
                    break;
                default:
                    items[i] = v;
                    break;
            }
        }
    }

    /** What the bytes of a text can mean; the names come first, so that their numbers are their places in a row. */
    private static final class Token {
        static final int ONE = 0, OTHER = 1, PACE = 2, NEAR = 3, MANY = 4, HAND = 5, NAMES = 6;
        static final int ODDS = 6, WORTH = 7, MINDS = 8, OR = 9, AND = 10, NOT = 11, WORDS = 12;
        static final int OPEN = 12, CLOSE = 13, SEMICOLON = 14, PLUS = 15, MINUS = 16, TIMES = 17, LESS = 18, EQUAL = 19;
        static final int NEGATE = 20, NUMBER = 21, END = 22, WRONG = 23;
        static final String SIGNS = "();+-*<=";

        static String spelling(int word) {
            switch (word) {
                case ONE:
                    return "one";
                case OTHER:
                    return "other";
                case PACE:
                    return "pace";
                case NEAR:
                    return "near";
                case MANY:
                    return "many";
                case HAND:
                    return "hand";
                case ODDS:
                    return "odds";
                case WORTH:
                    return "worth";
                case MINDS:
                    return "minds";
                case OR:
                    return "or";
                case AND:
                    return "and";
                case NOT:
                    return "not";
                default:
                    return "";
            }
        }
    }

    /** Three expressions, each written so that what is worked on stands ahead of what works on it. */
    private static final class Text {
        // What is a number stands above all tokens, so that one row has room for both.
        private static final int FIRST_NUMBER = 32;
        private final int[] code = new int[MOST_BYTES];
        private final int[] ends = new int[PARTS];
        private int size = 0;
        private final int[] stack = new int[MOST_BYTES];
        private int height = 0;

        void clear() {
            size = 0;
        }

        void addToken(int token) {
            if (size < MOST_BYTES) {
                code[size] = token;
                size++;
            }
        }

        void addNumber(int number) {
            addToken(FIRST_NUMBER + number);
        }

        void endPart(int part) {
            if (isWithin(part, 0, PARTS - 1)) {
                ends[part] = size;
            }
        }

        void become(Text other) {
            size = other.size;
            for (int i = 0; i < size; i++) {
                code[i] = other.code[i];
            }
            for (int part = 0; part < PARTS; part++) {
                ends[part] = other.ends[part];
            }
        }

        int valueOf(int part, int[] names) {
            if (!isWithin(part, 0, PARTS - 1) || names.length < Token.NAMES) {
                return 0;
            }
            height = 0;
            for (int i = part == 0 ? 0 : ends[part - 1]; i < ends[part]; i++) {
                work(code[i], names);
            }
            return pop();
        }

        private void work(int step, int[] names) {
            if (step >= FIRST_NUMBER) {
                push(step - FIRST_NUMBER);
            } else if (isWithin(step, 0, Token.NAMES - 1)) {
                push(names[step]);
            } else if (step == Token.NOT) {
                push(pop() == 0 ? 1 : 0);
            } else if (step == Token.NEGATE) {
                push(-pop());
            } else {
                int right = pop();
                int left = pop();
                push(join(step, left, right));
            }
        }

        private static int join(int token, int left, int right) {
            switch (token) {
                case Token.OR:
                    return left != 0 || right != 0 ? 1 : 0;
                case Token.AND:
                    return left != 0 && right != 0 ? 1 : 0;
                case Token.LESS:
                    return left < right ? 1 : 0;
                case Token.EQUAL:
                    return left == right ? 1 : 0;
                case Token.PLUS:
                    return left + right;
                case Token.MINUS:
                    return left - right;
                case Token.TIMES:
                    return left * right;
                default:
                    return 0;
            }
        }

        private void push(int value) {
            if (height < MOST_BYTES) {
                stack[height] = value;
                height++;
            }
        }

        private int pop() {
            if (height <= 0) {
                return 0;
            }
            height--;
            return stack[height];
        }
    }

    /** The tape, and how a text is read from it; no token is passed before it is known to stand where it can. */
    private static final class Reader {
        private static final int MOST_OPEN = 5, MOST_DIGITS = 4;
        private final int[] tape = new int[MOST_BYTES];
        private final Text draft = new Text();
        int size = 0;
        private int next = 0;
        private int token = Token.END;
        private int tokenAt = 0;
        private int number = 0;

        void append(int letter) {
            if (size < MOST_BYTES) {
                tape[size] = letter;
                size++;
            }
        }

        /** The place of the fault, or -1; the tape is empty then. */
        int readInto(Text text) {
            draft.clear();
            next = 0;
            step();
            boolean fits = true;
            for (int part = 0; part < PARTS && fits; part++) {
                fits = pass(Token.ODDS + part) && readExpression(0) && pass(Token.SEMICOLON);
                draft.endPart(part);
            }
            size = 0;
            if (!fits || token != Token.END) {
                return tokenAt;
            }
            text.become(draft);
            return -1;
        }

        private boolean pass(int wanted) {
            if (token != wanted) {
                return false;
            }
            step();
            return true;
        }

        private boolean readExpression(int open) {
            boolean fits = readConjunction(open);
            for (int i = 0; i < MOST_BYTES && fits && token == Token.OR; i++) {
                step();
                fits = readConjunction(open);
                draft.addToken(Token.OR);
            }
            return fits;
        }

        private boolean readConjunction(int open) {
            boolean fits = readNegation(open);
            for (int i = 0; i < MOST_BYTES && fits && token == Token.AND; i++) {
                step();
                fits = readNegation(open);
                draft.addToken(Token.AND);
            }
            return fits;
        }

        private boolean readNegation(int open) {
            if (token != Token.NOT) {
                return readComparison(open);
            }
            if (open >= MOST_OPEN) {
                return false;
            }
            step();
            boolean fits = readNegation(open + 1);
            draft.addToken(Token.NOT);
            return fits;
        }

        private boolean readComparison(int open) {
            boolean fits = readSum(open);
            int sign = token;
            if (fits && (sign == Token.LESS || sign == Token.EQUAL)) {
                step();
                fits = readSum(open);
                draft.addToken(sign);
            }
            return fits;
        }

        private boolean readSum(int open) {
            boolean fits = readTerm(open);
            for (int i = 0; i < MOST_BYTES && fits && (token == Token.PLUS || token == Token.MINUS); i++) {
                int sign = token;
                step();
                fits = readTerm(open);
                draft.addToken(sign);
            }
            return fits;
        }

        private boolean readTerm(int open) {
            boolean fits = readOne(open);
            for (int i = 0; i < MOST_BYTES && fits && token == Token.TIMES; i++) {
                step();
                fits = readOne(open);
                draft.addToken(Token.TIMES);
            }
            return fits;
        }

        private boolean readOne(int open) {
            if (token == Token.NUMBER) {
                draft.addNumber(number);
                step();
                return true;
            }
            if (isWithin(token, 0, Token.NAMES - 1)) {
                draft.addToken(token);
                step();
                return true;
            }
            if (open >= MOST_OPEN) {
                return false;
            }
            if (token == Token.MINUS) {
                step();
                boolean fits = readOne(open + 1);
                draft.addToken(Token.NEGATE);
                return fits;
            }
            return pass(Token.OPEN) && readExpression(open + 1) && pass(Token.CLOSE);
        }

        private void step() {
            while (next < size && (tape[next] == 32 || tape[next] == 10)) {
                next++;
            }
            tokenAt = next;
            if (next >= size) {
                token = Token.END;
            } else if (isLetter(tape[next])) {
                token = passWord();
            } else if (isDigit(tape[next])) {
                token = passNumber();
            } else {
                int sign = Token.SIGNS.indexOf((char) tape[next]);
                token = sign < 0 ? Token.WRONG : Token.OPEN + sign;
                next++;
            }
        }

        private int passWord() {
            while (next < size && isLetter(tape[next])) {
                next++;
            }
            for (int word = 0; word < Token.WORDS; word++) {
                if (isSpelled(Token.spelling(word))) {
                    return word;
                }
            }
            return Token.WRONG;
        }

        private boolean isSpelled(String word) {
            if (word.length() != next - tokenAt) {
                return false;
            }
            for (int i = 0; i < word.length(); i++) {
                if (word.charAt(i) != tape[tokenAt + i]) {
                    return false;
                }
            }
            return true;
        }

        private int passNumber() {
            number = 0;
            while (next < size && isDigit(tape[next])) {
                // Of a number that is too long the value does not matter, so it may wrap around.
                number = number * 10 + (tape[next] - '0');
                next++;
            }
            return next - tokenAt > MOST_DIGITS ? Token.WRONG : Token.NUMBER;
        }

        private static boolean isLetter(int b) {
            return b >= 'a' && b <= 'z';
        }

        private static boolean isDigit(int b) {
            return b >= '0' && b <= '9';
        }
    }
}
