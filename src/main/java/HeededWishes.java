import java.util.Arrays;

/**
 * A voice for things: wishes heard with doubts, done by rights, taken back, and standing ones.
 *
 * <p>STATES of all THINGS are held as one int, two bits a THING: so what would be can be
 * looked at without a copy, and a THING that is not there has STATE 0 by itself.
 */
public final class HeededWishes {
    public static final int BAD = -1, NO = -2, FULL = -3, NONE = -4, HARM = -5;

    private static final int NOT_GONE = -100;
    private static final int THINGS = 10, ROOMS = 5, SORTS = 4, FOLK = 6, GUEST = 6;
    private static final int ANY_SORT = 4, ANY_ROOM = 5, OUT = -1;
    private static final int HOURS = 24, TOP_STATE = 3, TOP_COST = 100, TOP_TICKS = 100;
    private static final int SOUNDS = 16, TOP_DOUBT = 9, WORDS = 16, WORD_SOUNDS = 4, HEARD_SOUNDS = 8;
    private static final int VERB = 0, SORT = 1, ROOM = 2, IT = 3;
    private static final int LEFT_OUT = 6, ONE_MORE = 6;
    private static final int LIMIT = 0, MARGIN = 1, SURE = 2, TOP_SURE = 100;
    private static final int TEXT = 200, ITEMS = 40, ITEM_NUMBERS = 5;
    private static final int READINGS = 12, PARTS = 3, NO_WORD = -1;
    private static final int WISHES = 200, STANDING = 8, CHANGES = 30;
    private static final int ROW = 256;
    private static final int LOG = 60, TOP_DAYS = 14;
    private static final int BY_WISH = 1000, BY_STANDING = 2000, BY_BACK = 3000;

    private static final int[] TOP_OF_SORT = {3, 1, 2, 1};
    private static final int[] NUMBERS_OF_KIND = {4, 4, 5, 1};
    private static final int[] TOP_OF_BOUND = {50, 20, 100};

    private final House house;
    private final Rules rules;
    private final Vocabulary vocabulary;
    private final Hearing hearing;
    private final Deeds deeds;
    private final Standing standing;
    private final Foresight foresight;
    private final Diary diary;
    private final int[] bounds;

    public HeededWishes() {
        house = new House();
        rules = new Rules(house);
        vocabulary = new Vocabulary();
        hearing = new Hearing(house, vocabulary);
        deeds = new Deeds();
        standing = new Standing(house, rules);
        foresight = new Foresight(house, rules, standing);
        diary = new Diary();
        bounds = new int[] {20, 3, 60};
    }

    // ---- the house

    public int thing(int room, int sort, int cost) {
        if (!within(room, 0, ROOMS - 1) || !within(sort, 0, SORTS - 1) || !within(cost, 0, TOP_COST)) {
            return BAD;
        }
        return house.addThing(room, sort, cost);
    }

    public int go(int folk, int room) {
        if (!within(folk, 0, FOLK - 1) || !within(room, OUT, ROOMS - 1)) {
            return NOT_GONE;
        }
        return house.move(folk, room);
    }

    public int state(int thing) {
        return house.isThing(thing) ? stateIn(house.states, thing) : BAD;
    }

    public int doubt(int told, int heard, int v) {
        if (!within(told, 0, SOUNDS - 1) || !within(heard, 0, SOUNDS - 1) || told == heard
                || !within(v, 0, TOP_DOUBT)) {
            return BAD;
        }
        return vocabulary.setDoubt(told, heard, v);
    }

    public int word(int kind, int number, int n, int v) {
        if (!within(kind, VERB, IT) || !within(number, 0, NUMBERS_OF_KIND[kind] - 1)
                || !within(n, 1, WORD_SOUNDS) || !fitsSounds(n, v)) {
            return BAD;
        }
        return vocabulary.addWord(kind, number, n, v);
    }

    public int rule(int what, int v) {
        if (!within(what, LIMIT, SURE) || !within(v, 0, TOP_OF_BOUND[what])) {
            return BAD;
        }
        int was = bounds[what];
        bounds[what] = v;
        return was;
    }

    // ---- rules

    public int write(int n, long v) {
        return within(n, 1, 8) ? rules.append(n, v) : BAD;
    }

    public int wipe() {
        return rules.clearText();
    }

    public int fault() {
        return rules.firstFault();
    }

    public int force() {
        return rules.putInForce();
    }

    public int may(int folk, int thing, int hour) {
        if (!within(folk, 0, GUEST) || !house.isThing(thing) || !within(hour, 0, HOURS - 1)) {
            return BAD;
        }
        return rules.lets(folk, thing, hour) ? 1 : 0;
    }

    public int barred() {
        return Long.bitCount(rules.barring(house.states));
    }

    // ---- wishes

    public int hear(int folk, int sure, int n, long v) {
        if (!within(folk, 0, FOLK - 1) || !within(sure, 0, TOP_SURE)
                || !within(n, 1, HEARD_SOUNDS) || !fitsSounds(n, v)) {
            return BAD;
        }
        if (house.whereIs[folk] == OUT) {
            return NO;
        }
        vocabulary.listen(n, v);
        hearing.begin(folk, sure < bounds[SURE] ? GUEST : folk);
        hearing.findReadings(bounds[LIMIT]);
        hearing.findMeant(deeds.lastMeant);
        hearing.findOpen(bounds[MARGIN]);
        return hearing.size;
    }

    public int reading(int i, int what) {
        if (i < 0 || !within(what, 0, 4)) {
            return BAD;
        }
        return hearing.tell(i, what);
    }

    public int open() {
        return hearing.heard ? hearing.unlike() : NO;
    }

    public int ask() {
        if (!hearing.heard) {
            return NO;
        }
        return hearing.unlike() < 2 ? NONE : hearing.partToAsk();
    }

    public int answer(int part, int word) {
        int least = part == PARTS - 1 ? NO_WORD : 0;
        if (!within(part, 0, PARTS - 1) || !within(word, least, vocabulary.size - 1)) {
            return BAD;
        }
        return hearing.keepOnly(part, word);
    }

    public int done() {
        int taken = hearing.taken();
        if (taken < 0) {
            return NO;
        }
        int meant = hearing.meant[taken];
        if (!mayTurnAll(hearing.rights, meant)) {
            return NO;
        }
        if (deeds.size >= WISHES) {
            return FULL;
        }
        int state = vocabulary.numberOf(hearing.verb[taken]);
        if (rules.barsNewly(house.states, withAll(house.states, meant, state))) {
            return HARM;
        }
        int changed = carryOut(meant, state);
        hearing.end();
        return changed;
    }

    public int undo() {
        int wish = deeds.lastNotBack();
        return wish < 0 ? NO : takeBack(wish);
    }

    // ---- standing

    public int when(int t, int v, int u, int w) {
        if (!house.canBe(t, v) || !house.canBe(u, w)) {
            return BAD;
        }
        return standing.add(t, v, u, w);
    }

    public int at(int hour, int u, int w) {
        if (!within(hour, 0, HOURS - 1) || !house.canBe(u, w)) {
            return BAD;
        }
        return standing.add(Standing.BY_HOUR, hour, u, w);
    }

    public int ticks(int n) {
        if (!within(n, 1, TOP_TICKS)) {
            return BAD;
        }
        for (int k = 0; k < n; k++) {
            house.passHour();
            standing.fireAt(house.hourOfDay());
        }
        return house.hour;
    }

    public int quarrel() {
        return standing.firstQuarrel();
    }

    public int wake() {
        return standing.firstSelfWaker();
    }

    public int show() {
        return foresight.fewestToBarred();
    }

    // ---- habits, costs

    public int habits(int d, int m, int i) {
        if (!within(d, 1, TOP_DAYS) || !within(m, 1, d) || i < -1) {
            return BAD;
        }
        diary.gatherDays(house.day(), d);
        return i == -1 ? diary.howMany(m) : diary.habit(m, i);
    }

    public int keepHabit(int told) {
        if (told < 0) {
            return BAD;
        }
        int hour = told / 100;
        int thing = told / 10 % 10;
        int state = told % 10;
        if (!within(hour, 0, HOURS - 1) || !house.canBe(thing, state)) {
            return BAD;
        }
        return standing.add(Standing.BY_HOUR, hour, thing, state);
    }

    public int forget(int folk) {
        return within(folk, 0, FOLK - 1) ? diary.drop(folk) : BAD;
    }

    public int cost(int thing) {
        if (thing == -1) {
            return house.spentInAll();
        }
        return house.isThing(thing) ? house.spent[thing] : BAD;
    }

    public int why(int thing) {
        return house.isThing(thing) ? house.reason[thing] : BAD;
    }

    public int count(int what) {
        switch (what) {
            case 0: return house.things;
            case 1: return vocabulary.size;
            case 2: return rules.length;
            case 3: return rules.items;
            case 4: return standing.size;
            case 5: return standing.held;
            case 6: return deeds.size;
            case 7: return diary.size;
            case 8: return house.hour;
            case 9: return diary.forgotten;
            default: return BAD;
        }
    }

    // ---- what the calls share

    private boolean mayTurnAll(int rights, int meant) {
        for (int t = 0; t < house.things; t++) {
            if (isIn(meant, t) && !rules.lets(rights, t, house.hourOfDay())) {
                return false;
            }
        }
        return true;
    }

    private int carryOut(int meant, int state) {
        int changed = house.thingsUnlike(meant, state);
        int wish = deeds.add(meant, changed, house.states);
        standing.clearRow();
        for (int t = 0; t < THINGS; t++) {
            if (isIn(meant, t)) {
                diary.add(hearing.who, house.day(), house.hourOfDay(), t, state);
            }
            if (isIn(changed, t)) {
                house.change(t, state, BY_WISH + wish);
                standing.rouse(t, state);
            }
        }
        standing.runRow(Integer.bitCount(changed));
        return changed;
    }

    private int takeBack(int wish) {
        deeds.back[wish] = true;
        int got = 0;
        for (int t = 0; t < house.things; t++) {
            // A wish changes a THING once at most: its mark still there says nothing changed it since.
            if (isIn(deeds.changed[wish], t) && house.reason[t] == BY_WISH + wish) {
                house.change(t, stateIn(deeds.statesAhead[wish], t), BY_BACK + wish);
                got |= 1 << t;
            }
        }
        return got;
    }

    private static boolean within(int v, int least, int most) {
        return v >= least && v <= most;
    }

    private static boolean fitsSounds(int n, long v) {
        return v >= 0 && v < 1L << 4 * n;
    }

    private static boolean isIn(int bits, int thing) {
        return (bits >> thing & 1) != 0;
    }

    private static int stateIn(int states, int thing) {
        return states >> 2 * thing & 3;
    }

    private static int with(int states, int thing, int v) {
        return states & ~(3 << 2 * thing) | v << 2 * thing;
    }

    private static int withAll(int states, int bits, int v) {
        int after = states;
        for (int t = 0; t < THINGS; t++) {
            if (isIn(bits, t)) {
                after = with(after, t, v);
            }
        }
        return after;
    }

    /** THINGS, where FOLK are, and the HOUR. */
    private static final class House {
        final int[] roomOf = new int[THINGS];
        final int[] sortOf = new int[THINGS];
        final int[] costOf = new int[THINGS];
        final int[] spent = new int[THINGS];
        final int[] reason = new int[THINGS];
        final int[] whereIs = new int[FOLK];
        final int[] crowd = new int[ROOMS];
        int things;
        int states;
        int hour;

        House() {
            Arrays.fill(reason, NONE);
            Arrays.fill(whereIs, OUT);
        }

        int addThing(int room, int sort, int cost) {
            if (things >= THINGS) {
                return FULL;
            }
            roomOf[things] = room;
            sortOf[things] = sort;
            costOf[things] = cost;
            things++;
            return things - 1;
        }

        boolean isThing(int t) {
            return t >= 0 && t < things;
        }

        boolean canBe(int t, int v) {
            return isThing(t) && v >= 0 && v <= TOP_OF_SORT[sortOf[t]];
        }

        int move(int folk, int room) {
            int was = whereIs[folk];
            if (was != OUT) {
                crowd[was]--;
            }
            if (room != OUT) {
                crowd[room]++;
            }
            whereIs[folk] = room;
            return was;
        }

        void change(int t, int v, int by) {
            states = with(states, t, v);
            reason[t] = by;
        }

        int thingsUnlike(int bits, int v) {
            int unlike = 0;
            for (int t = 0; t < things; t++) {
                if (isIn(bits, t) && stateIn(states, t) != v) {
                    unlike |= 1 << t;
                }
            }
            return unlike;
        }

        int thingsThere(int sort, int room) {
            int bits = 0;
            for (int t = 0; t < things; t++) {
                if (sortOf[t] == sort && roomOf[t] == room) {
                    bits |= 1 << t;
                }
            }
            return bits;
        }

        int thingsThatCanBe(int bits, int v) {
            int able = 0;
            for (int t = 0; t < things; t++) {
                if (isIn(bits, t) && canBe(t, v)) {
                    able |= 1 << t;
                }
            }
            return able;
        }

        void passHour() {
            for (int t = 0; t < things; t++) {
                spent[t] += stateIn(states, t) * costOf[t];
            }
            hour++;
        }

        /** 0 to 23 for any HOUR, even one that wrapped around: places in rows are counted by it. */
        int hourOfDay() {
            return Math.floorMod(hour, HOURS);
        }

        int day() {
            return Math.floorDiv(hour, HOURS);
        }

        int spentInAll() {
            int sum = 0;
            for (int t = 0; t < things; t++) {
                sum += spent[t];
            }
            return sum;
        }
    }

    /** THE TEXT, and the ITEMS IN FORCE. */
    private static final class Rules {
        final House house;
        final int[] text = new int[TEXT];
        final int[] numbers = new int[ITEM_NUMBERS];
        final int[] letterOf = new int[ITEMS];
        final int[] numbersOf = new int[ITEMS * ITEM_NUMBERS];
        int length;
        int items;

        Rules(House house) {
            this.house = house;
        }

        int append(int n, long v) {
            if (length + n > TEXT) {
                return FULL;
            }
            for (int k = n - 1; k >= 0; k--) {
                text[length] = (int) (v >>> 8 * k) & 255;
                length++;
            }
            return length;
        }

        int clearText() {
            int was = length;
            length = 0;
            return was;
        }

        int firstFault() {
            int place = 0;
            for (int k = 0; k < TEXT && place < length; k++) {
                int behind = readItem(place);
                if (behind < 0) {
                    return place;
                }
                place = behind;
            }
            return NONE;
        }

        int putInForce() {
            if (firstFault() != NONE) {
                return NO;
            }
            items = 0;
            int place = 0;
            for (int k = 0; k < ITEMS && place >= 0 && place < length; k++) {
                int behind = readItem(place);
                letterOf[k] = text[place];
                System.arraycopy(numbers, 0, numbersOf, k * ITEM_NUMBERS, ITEM_NUMBERS);
                items++;
                place = behind;
            }
            return items;
        }

        /** Puts the ITEM's numbers into numbers: the place behind it, -1 if it is not so. */
        private int readItem(int from) {
            int wanted = numbersWanted(text[from]);
            int place = from + 1;
            for (int k = 0; k < wanted; k++) {
                int figures = figuresAt(place);
                if (figures == 0) {
                    return -1;
                }
                numbers[k] = valueAt(place, figures);
                place += figures;
                int parting = k == wanted - 1 ? ';' : ',';
                if (place >= length || text[place] != parting) {
                    return -1;
                }
                place++;
            }
            return numbersFit(text[from]) ? place : -1;
        }

        private static int numbersWanted(int letter) {
            switch (letter) {
                case 'r': return 5;
                case 'x': return 4;
                case 'n': return 2;
                default: return 0;
            }
        }

        private boolean isFigure(int place) {
            return place < length && text[place] >= '0' && text[place] <= '9';
        }

        private int figuresAt(int place) {
            if (!isFigure(place)) {
                return 0;
            }
            return isFigure(place + 1) ? 2 : 1;
        }

        private int valueAt(int place, int figures) {
            int first = text[place] - '0';
            return figures == 1 ? first : 10 * first + text[place + 1] - '0';
        }

        private boolean numbersFit(int letter) {
            switch (letter) {
                case 'r':
                    return numbers[0] <= GUEST && numbers[1] <= ANY_SORT && numbers[2] <= ANY_ROOM
                            && numbers[3] <= numbers[4] && numbers[4] < HOURS;
                case 'x':
                    return isBarrable(numbers[0], numbers[1]) && numbers[2] < THINGS
                            && numbers[3] <= TOP_STATE;
                case 'n':
                    return isBarrable(numbers[0], numbers[1]);
                default:
                    return false;
            }
        }

        private static boolean isBarrable(int thing, int v) {
            return thing < THINGS && within(v, 1, TOP_STATE);
        }

        boolean lets(int folk, int thing, int hour) {
            for (int k = 0; k < items; k++) {
                if (letterOf[k] == 'r' && letsByItem(k * ITEM_NUMBERS, folk, thing, hour)) {
                    return true;
                }
            }
            return false;
        }

        private boolean letsByItem(int from, int folk, int thing, int hour) {
            int sort = numbersOf[from + 1];
            int room = numbersOf[from + 2];
            return numbersOf[from] == folk
                    && (sort == ANY_SORT || sort == house.sortOf[thing])
                    && (room == ANY_ROOM || room == house.roomOf[thing])
                    && within(hour, numbersOf[from + 3], numbersOf[from + 4]);
        }

        /** A bit for each ITEM x, n that bars these STATES, with FOLK where they are. */
        long barring(int states) {
            long bits = 0;
            for (int k = 0; k < items; k++) {
                if (letterOf[k] != 'r' && barsByItem(k, states)) {
                    bits |= 1L << k;
                }
            }
            return bits;
        }

        private boolean barsByItem(int item, int states) {
            int from = item * ITEM_NUMBERS;
            int thing = numbersOf[from];
            if (stateIn(states, thing) < numbersOf[from + 1]) {
                return false;
            }
            if (letterOf[item] == 'x') {
                return stateIn(states, numbersOf[from + 2]) >= numbersOf[from + 3];
            }
            return house.crowd[house.roomOf[thing]] == 0;
        }

        boolean barsNewly(int states, int after) {
            return items > 0 && (barring(after) & ~barring(states)) != 0;
        }
    }

    /** WORDS, DOUBTS, and the least prices by which WORDS become the SOUNDS heard. */
    private static final class Vocabulary {
        final int[] kind = new int[WORDS];
        final int[] number = new int[WORDS];
        final int[] soundsIn = new int[WORDS];
        final int[] sounds = new int[WORDS * WORD_SOUNDS];
        final int[] doubts = new int[SOUNDS * SOUNDS];
        final int[] heard = new int[HEARD_SOUNDS];
        int size;
        int heardLength;

        Vocabulary() {
            Arrays.fill(doubts, TOP_DOUBT);
            for (int s = 0; s < SOUNDS; s++) {
                doubts[s * SOUNDS + s] = 0;
            }
        }

        int setDoubt(int told, int heardAs, int v) {
            int place = told * SOUNDS + heardAs;
            int was = doubts[place];
            doubts[place] = v;
            return was;
        }

        int addWord(int ofKind, int itsNumber, int n, int v) {
            if (size >= WORDS) {
                return FULL;
            }
            kind[size] = ofKind;
            number[size] = itsNumber;
            soundsIn[size] = n;
            for (int k = 0; k < n; k++) {
                sounds[size * WORD_SOUNDS + k] = v >> 4 * (n - 1 - k) & 15;
            }
            size++;
            return size - 1;
        }

        int numberOf(int word) {
            return word >= 0 && word < size ? number[word] : 0;
        }

        void listen(int n, long v) {
            heardLength = n;
            for (int k = 0; k < n; k++) {
                heard[k] = (int) (v >> 4 * (n - 1 - k)) & 15;
            }
        }

        /** Prices of no SOUND told, for the first 0, 1, .. SOUNDS heard. */
        void priceNothing(int[] prices) {
            for (int h = 0; h <= heardLength; h++) {
                prices[h] = h * ONE_MORE;
            }
        }

        /** Prices with one WORD more told, out of those without it. */
        void priceWithWord(int[] without, int[] prices, int word) {
            System.arraycopy(without, 0, prices, 0, heardLength + 1);
            for (int k = 0; k < soundsIn[word]; k++) {
                priceWithSound(prices, sounds[word * WORD_SOUNDS + k]);
            }
        }

        private void priceWithSound(int[] prices, int told) {
            int shorter = prices[0];
            prices[0] = shorter + LEFT_OUT;
            for (int h = 1; h <= heardLength; h++) {
                int asHeard = shorter + doubts[told * SOUNDS + heard[h - 1]];
                shorter = prices[h];
                int oneOff = Math.min(shorter + LEFT_OUT, prices[h - 1] + ONE_MORE);
                prices[h] = Math.min(asHeard, oneOff);
            }
        }
    }

    /** What was HEARD: its READINGS, what they mean, which are OPEN. */
    private static final class Hearing {
        final House house;
        final Vocabulary vocabulary;
        final int[] price = new int[READINGS];
        final int[] verb = new int[READINGS];
        final int[] second = new int[READINGS];
        final int[] third = new int[READINGS];
        final int[] meant = new int[READINGS];
        final boolean[] isOpen = new boolean[READINGS];
        final int[] nothingTold = new int[HEARD_SOUNDS + 1];
        final int[] verbTold = new int[HEARD_SOUNDS + 1];
        final int[] secondTold = new int[HEARD_SOUNDS + 1];
        final int[] thirdTold = new int[HEARD_SOUNDS + 1];
        boolean heard;
        int who;
        int rights;
        int size;

        Hearing(House house, Vocabulary vocabulary) {
            this.house = house;
            this.vocabulary = vocabulary;
        }

        void begin(int folk, int withRightsOf) {
            heard = true;
            who = folk;
            rights = withRightsOf;
            size = 0;
        }

        void end() {
            heard = false;
            size = 0;
        }

        void findReadings(int limit) {
            vocabulary.priceNothing(nothingTold);
            for (int w = 0; w < vocabulary.size; w++) {
                if (vocabulary.kind[w] == VERB) {
                    vocabulary.priceWithWord(nothingTold, verbTold, w);
                    offerWithVerb(w, limit);
                }
            }
        }

        private void offerWithVerb(int verbWord, int limit) {
            int last = vocabulary.heardLength;
            for (int w = 0; w < vocabulary.size; w++) {
                int kind = vocabulary.kind[w];
                if (kind == SORT || kind == IT) {
                    vocabulary.priceWithWord(verbTold, secondTold, w);
                    if (secondTold[last] <= limit) {
                        offer(secondTold[last], verbWord, w, NO_WORD);
                    }
                }
                if (kind == SORT) {
                    offerWithSort(verbWord, w, limit);
                }
            }
        }

        private void offerWithSort(int verbWord, int sortWord, int limit) {
            int last = vocabulary.heardLength;
            for (int w = 0; w < vocabulary.size; w++) {
                if (vocabulary.kind[w] == ROOM) {
                    vocabulary.priceWithWord(secondTold, thirdTold, w);
                    if (thirdTold[last] <= limit) {
                        offer(thirdTold[last], verbWord, sortWord, w);
                    }
                }
            }
        }

        /** ROWS are offered in the order of their WORDS, so one goes behind all of its PRICE. */
        private void offer(int itsPrice, int verbWord, int secondWord, int thirdWord) {
            int place = size;
            while (place > 0 && price[place - 1] > itsPrice) {
                place--;
            }
            if (place >= READINGS) {
                return;
            }
            if (size < READINGS) {
                size++;
            }
            for (int k = size - 1; k > place; k--) {
                price[k] = price[k - 1];
                verb[k] = verb[k - 1];
                second[k] = second[k - 1];
                third[k] = third[k - 1];
            }
            price[place] = itsPrice;
            verb[place] = verbWord;
            second[place] = secondWord;
            third[place] = thirdWord;
        }

        void findMeant(int doneLast) {
            for (int i = 0; i < size; i++) {
                int named = vocabulary.kind[second[i]] == IT ? doneLast : thingsNamed(i);
                meant[i] = house.thingsThatCanBe(named, vocabulary.numberOf(verb[i]));
            }
        }

        private int thingsNamed(int i) {
            int room = third[i] == NO_WORD ? house.whereIs[who] : vocabulary.numberOf(third[i]);
            return house.thingsThere(vocabulary.numberOf(second[i]), room);
        }

        void findOpen(int margin) {
            boolean found = false;
            int most = 0;
            for (int i = 0; i < size; i++) {
                if (!found && meant[i] != 0) {
                    found = true;
                    most = price[i] + margin;
                }
                isOpen[i] = meant[i] != 0 && price[i] <= most;
            }
        }

        int tell(int i, int what) {
            if (!heard || i >= size) {
                return NONE;
            }
            switch (what) {
                case 0: return price[i];
                case 1: return verb[i];
                case 2: return second[i];
                case 3: return third[i] == NO_WORD ? NONE : third[i];
                default: return meant[i];
            }
        }

        /** How many unlike STATES of all THINGS the OPEN READINGS would make now. */
        int unlike() {
            int sum = 0;
            for (int i = 0; i < size; i++) {
                if (isOpen[i] && isFirstToDoSo(i)) {
                    sum++;
                }
            }
            return sum;
        }

        private boolean isFirstToDoSo(int i) {
            int makes = statesBy(i);
            for (int k = 0; k < i; k++) {
                if (isOpen[k] && statesBy(k) == makes) {
                    return false;
                }
            }
            return true;
        }

        private int statesBy(int i) {
            return withAll(house.states, meant[i], vocabulary.numberOf(verb[i]));
        }

        /** The READING that is TAKEN, -1 if none is. */
        int taken() {
            if (!heard || unlike() != 1) {
                return -1;
            }
            for (int i = 0; i < size; i++) {
                if (isOpen[i]) {
                    return i;
                }
            }
            return -1;
        }

        int partToAsk() {
            int best = 0;
            for (int part = 1; part < PARTS; part++) {
                if (greatestWithOneAnswer(part) < greatestWithOneAnswer(best)) {
                    best = part;
                }
            }
            return best;
        }

        private int greatestWithOneAnswer(int part) {
            int greatest = 0;
            for (int i = 0; i < size; i++) {
                if (isOpen[i]) {
                    greatest = Math.max(greatest, openWith(part, wordAt(i, part)));
                }
            }
            return greatest;
        }

        private int openWith(int part, int word) {
            int sum = 0;
            for (int i = 0; i < size; i++) {
                if (isOpen[i] && wordAt(i, part) == word) {
                    sum++;
                }
            }
            return sum;
        }

        private int wordAt(int i, int part) {
            switch (part) {
                case 0: return verb[i];
                case 1: return second[i];
                default: return third[i];
            }
        }

        int keepOnly(int part, int word) {
            int left = heard ? openWith(part, word) : 0;
            if (left == 0) {
                return NO;
            }
            for (int i = 0; i < size; i++) {
                isOpen[i] = isOpen[i] && wordAt(i, part) == word;
            }
            return left;
        }
    }

    /** Wishes DONE, as far as they can go BACK. */
    private static final class Deeds {
        final int[] changed = new int[WISHES];
        final int[] statesAhead = new int[WISHES];
        final boolean[] back = new boolean[WISHES];
        int size;
        int lastMeant;

        int add(int meant, int changedByIt, int states) {
            changed[size] = changedByIt;
            statesAhead[size] = states;
            lastMeant = meant;
            size++;
            return size - 1;
        }

        int lastNotBack() {
            int wish = size - 1;
            while (wish >= 0 && back[wish]) {
                wish--;
            }
            return wish;
        }
    }

    /** Wishes that stand, and the row of changes that they make. */
    private static final class Standing {
        static final int BY_HOUR = -1;

        final House house;
        final Rules rules;
        /** The THING that is waited for, or BY_HOUR. */
        final int[] waitsFor = new int[STANDING];
        /** Its STATE, or the HOUR of the day. */
        final int[] waitsTill = new int[STANDING];
        final int[] turns = new int[STANDING];
        final int[] into = new int[STANDING];
        final int[] row = new int[ROW];
        int size;
        int held;
        int rowLength;

        Standing(House house, Rules rules) {
            this.house = house;
            this.rules = rules;
        }

        int add(int waitedFor, int till, int thing, int state) {
            if (size >= STANDING) {
                return FULL;
            }
            waitsFor[size] = waitedFor;
            waitsTill[size] = till;
            turns[size] = thing;
            into[size] = state;
            size++;
            return size - 1;
        }

        void clearRow() {
            rowLength = 0;
        }

        /** Puts into the row what stands for this THING with this STATE (or for BY_HOUR with this HOUR). */
        void rouse(int thing, int state) {
            for (int s = 0; s < size; s++) {
                if (waitsFor[s] == thing && waitsTill[s] == state) {
                    putInRow(s);
                }
            }
        }

        /** 8 by a wish or an HOUR and 8 by each of 30 changes fit in the row. */
        private void putInRow(int s) {
            if (rowLength < ROW) {
                row[rowLength] = s;
                rowLength++;
            }
        }

        void fireAt(int hourOfDay) {
            clearRow();
            rouse(BY_HOUR, hourOfDay);
            runRow(0);
        }

        void runRow(int changesAhead) {
            int changes = changesAhead;
            for (int k = 0; k < ROW && k < rowLength && changes < CHANGES; k++) {
                int s = row[k];
                int after = with(house.states, turns[s], into[s]);
                if (after == house.states) {
                    continue;
                }
                if (rules.barsNewly(house.states, after)) {
                    held++;
                    continue;
                }
                house.change(turns[s], into[s], BY_STANDING + s);
                changes++;
                rouse(turns[s], into[s]);
            }
        }

        int firstQuarrel() {
            for (int a = 0; a < size; a++) {
                for (int b = a + 1; b < size; b++) {
                    if (waitsFor[a] == waitsFor[b] && waitsTill[a] == waitsTill[b]
                            && turns[a] == turns[b] && into[a] != into[b]) {
                        return 10 * a + b;
                    }
                }
            }
            return NONE;
        }

        int firstSelfWaker() {
            for (int s = 0; s < size; s++) {
                if (isIn(allWokenBy(s), s)) {
                    return s;
                }
            }
            return NONE;
        }

        private int allWokenBy(int s) {
            int woken = wokenAtOnceBy(s);
            for (int round = 0; round < STANDING; round++) {
                for (int k = 0; k < size; k++) {
                    if (isIn(woken, k)) {
                        woken |= wokenAtOnceBy(k);
                    }
                }
            }
            return woken;
        }

        private int wokenAtOnceBy(int s) {
            int bits = 0;
            for (int k = 0; k < size; k++) {
                if (waitsFor[k] == turns[s] && waitsTill[k] == into[s]) {
                    bits |= 1 << k;
                }
            }
            return bits;
        }

        /** One that finds its THING as it wants it changes nothing: the fewest never hold it. */
        boolean firesByHour(int s, int states) {
            return waitsFor[s] == BY_HOUR && stateIn(states, turns[s]) != into[s];
        }

        /** STATES once one was fired from these with all that it wakes; -1 if a change makes what is newly barred. */
        int statesByFiring(int fired, int from, long barredAhead) {
            int states = from;
            int changes = 0;
            clearRow();
            putInRow(fired);
            for (int k = 0; k < ROW && k < rowLength && changes < CHANGES; k++) {
                int s = row[k];
                int after = with(states, turns[s], into[s]);
                if (after == states) {
                    continue;
                }
                if ((rules.barring(after) & ~barredAhead) != 0) {
                    return -1;
                }
                states = after;
                changes++;
                rouse(turns[s], into[s]);
            }
            return states;
        }
    }

    /**
     * SHOW: goes from what is reached with few firings to what is reached with one more.
     *
     * <p>2048 places do: 8 standing at an HOUR, with none to be woken, come to some 1,100 unlike
     * (fired, STATES) at most, 7 to some 1,100, and 6 have 1,957 rows of firings in all.
     */
    private static final class Foresight {
        static final int PLACES = 2048, NOWHERE = -1;

        final House house;
        final Rules rules;
        final Standing standing;
        final int[] firedAt = new int[PLACES];
        final int[] statesAt = new int[PLACES];
        /** The place reached ahead with the same ones fired. */
        final int[] placeAhead = new int[PLACES];
        final int[] lastPlaceWith = new int[1 << STANDING];
        int reached;

        Foresight(House house, Rules rules, Standing standing) {
            this.house = house;
            this.rules = rules;
            this.standing = standing;
        }

        int fewestToBarred() {
            if (rules.items == 0) {
                return NONE;
            }
            long barredNow = rules.barring(house.states);
            Arrays.fill(lastPlaceWith, NOWHERE);
            reached = 0;
            reach(0, house.states);
            for (int place = 0; place < PLACES && place < reached; place++) {
                if (comesToBarredFrom(place, barredNow)) {
                    return Integer.bitCount(firedAt[place]) + 1;
                }
            }
            return NONE;
        }

        private boolean comesToBarredFrom(int place, long barredNow) {
            for (int s = 0; s < standing.size; s++) {
                if (!standing.firesByHour(s, statesAt[place]) || isIn(firedAt[place], s)) {
                    continue;
                }
                int after = standing.statesByFiring(s, statesAt[place], barredNow);
                if (after < 0) {
                    return true;
                }
                reach(firedAt[place] | 1 << s, after);
            }
            return false;
        }

        private void reach(int fired, int states) {
            int same = lastPlaceWith[fired];
            for (int k = 0; k < PLACES && same != NOWHERE && statesAt[same] != states; k++) {
                same = placeAhead[same];
            }
            if (same != NOWHERE || reached >= PLACES) {
                return;
            }
            firedAt[reached] = fired;
            statesAt[reached] = states;
            placeAhead[reached] = lastPlaceWith[fired];
            lastPlaceWith[fired] = reached;
            reached++;
        }
    }

    /** The LOG, and the HABITS in it. */
    private static final class Diary {
        final int[] who = new int[LOG];
        final int[] day = new int[LOG];
        final int[] hourOfDay = new int[LOG];
        final int[] thing = new int[LOG];
        final int[] state = new int[LOG];
        /** For each HOUR of the day, THING and STATE a bit for each DAY on which they stand in the LOG. */
        final int[] daysOf = new int[HOURS * THINGS * (TOP_STATE + 1)];
        int size;
        int forgotten;

        void add(int folk, int itsDay, int itsHour, int itsThing, int itsState) {
            if (size >= LOG) {
                dropOldest();
            }
            who[size] = folk;
            day[size] = itsDay;
            hourOfDay[size] = itsHour;
            thing[size] = itsThing;
            state[size] = itsState;
            size++;
        }

        private void dropOldest() {
            for (int k = 1; k < size; k++) {
                moveEntry(k, k - 1);
            }
            size--;
        }

        private void moveEntry(int from, int to) {
            who[to] = who[from];
            day[to] = day[from];
            hourOfDay[to] = hourOfDay[from];
            thing[to] = thing[from];
            state[to] = state[from];
        }

        int drop(int folk) {
            int kept = 0;
            for (int k = 0; k < size; k++) {
                if (who[k] != folk) {
                    moveEntry(k, kept);
                    kept++;
                }
            }
            int gone = size - kept;
            size = kept;
            forgotten += gone;
            return gone;
        }

        void gatherDays(int today, int days) {
            Arrays.fill(daysOf, 0);
            for (int k = 0; k < size; k++) {
                int ago = today - day[k];
                if (ago >= 0 && ago < days) {
                    daysOf[(hourOfDay[k] * THINGS + thing[k]) * (TOP_STATE + 1) + state[k]] |= 1 << ago;
                }
            }
        }

        int howMany(int days) {
            int sum = 0;
            for (int k = 0; k < daysOf.length; k++) {
                if (Integer.bitCount(daysOf[k]) >= days) {
                    sum++;
                }
            }
            return sum;
        }

        int habit(int days, int i) {
            int ahead = 0;
            for (int k = 0; k < daysOf.length; k++) {
                if (Integer.bitCount(daysOf[k]) >= days) {
                    if (ahead == i) {
                        return toldAs(k);
                    }
                    ahead++;
                }
            }
            return NONE;
        }

        private static int toldAs(int place) {
            int ofState = place % (TOP_STATE + 1);
            int ofThing = place / (TOP_STATE + 1) % THINGS;
            return 100 * (place / (TOP_STATE + 1) / THINGS) + 10 * ofThing + ofState;
        }
    }
}
