import java.util.Arrays;
import java.util.NoSuchElementException;

/**
 * A reading aid: inflected forms are led back to headwords by rules, phrases with open places and
 * verbs whose parts stand apart are looked up in a sentence, the sentence is covered by entries at
 * the least cost, and readers learn entries by cards that are due by doubling and failing.
 *
 * <p>A set of places is an int throughout: the sum of 2 to the power of their numbers.
 */
public final class Pocketgloss {
    /** There is none; an open part. */
    public static final int NONE = -1;

    private static final int WORDS = 100;
    private static final int KINDS = 3;
    private static final int MOST_STEP = 50;
    private static final int MOST_RULES = 6;
    private static final int MOST_PARTS = 4;
    private static final int MOST_ENTRIES = 8;
    private static final int MOST_REACH = 4;
    private static final int MOST_COST = 20;
    private static final int MOST_PLACES = 6;
    private static final int FIRST_BARE = 10;
    private static final int MOST_BARE = 50;
    private static final int READERS = 3;
    private static final int MOST_INTERVAL = 64;
    private static final int KNOWN_INTERVAL = 8;
    private static final int MOST_DAYS = 100;

    // A split entry stands in at most as many ways as there are pairs of places; a phrase in fewer.
    private static final int MOST_STANDINGS = MOST_ENTRIES * MOST_PLACES * (MOST_PLACES - 1) / 2;

    private final Rules rules;
    private final Sentence sentence;
    private final Standings found;
    private final Covers covers;
    private final Cards cards;
    private final Entry[] made;
    private final int[] draft;
    private int madeCount;
    private int draftSize;
    private int bare;
    private int day;

    /** Begins without rules and entries, with an empty sentence. */
    public Pocketgloss() {
        rules = new Rules();
        sentence = new Sentence();
        found = new Standings();
        covers = new Covers();
        cards = new Cards();
        made = new Entry[MOST_ENTRIES];
        draft = new int[MOST_PARTS];
        bare = FIRST_BARE;
    }

    // ---- rules and forms

    /** Adds a rule; returns its number. */
    public int addRule(int kind, int step) throws IllegalArgumentException, IllegalStateException {
        if (kind < 0 || kind >= KINDS || step < 1 || step > MOST_STEP) {
            throw new IllegalArgumentException("kind or step is out of range");
        }
        if (rules.isFull()) {
            throw new IllegalStateException("there are as many rules as there may be");
        }
        return rules.put(kind, step);
    }

    /** Returns how many headwords a word is a form of. */
    public int headwords(int word) throws IndexOutOfBoundsException {
        needWord(word);
        int count = 0;
        for (int headword = 0; headword < WORDS; headword++) {
            if (rules.leadBack(word, headword)) {
                count++;
            }
        }
        return count;
    }

    /** Returns whether a word is a form of a headword. */
    public boolean isForm(int word, int headword) throws IndexOutOfBoundsException {
        needWord(word);
        needWord(headword);
        return rules.leadBack(word, headword);
    }

    // ---- entries

    /** Adds a part at the end of the draft of a phrase; returns how many parts that has then. */
    public int part(int headword) throws IndexOutOfBoundsException, IllegalStateException {
        if (headword != NONE) {
            needWord(headword);
        }
        if (draftSize >= draft.length) {
            throw new IllegalStateException("the draft is full");
        }
        if (headword == NONE && draftSize == 0) {
            throw new IllegalStateException("the first part is open");
        }
        draft[draftSize] = headword;
        draftSize++;
        return draftSize;
    }

    /** Makes the draft a phrase, and empties it; returns the number of the entry. */
    public int addPhrase(int cost) throws IllegalArgumentException, IllegalStateException {
        needCost(cost);
        if (draftSize < 1 || draftSize > draft.length) {
            throw new IllegalStateException("the draft is empty");
        }
        if (draft[draftSize - 1] == NONE) {
            throw new IllegalStateException("the last part is open");
        }
        needRoomForEntry();
        Phrase phrase = new Phrase(cost, Arrays.copyOf(draft, draftSize));
        draftSize = 0;
        return keep(phrase);
    }

    /** Makes a split entry; returns the number of the entry. */
    public int addSplit(int first, int second, int reach, int cost)
            throws IndexOutOfBoundsException, IllegalArgumentException, IllegalStateException {
        needWord(first);
        needWord(second);
        if (reach < 0 || reach > MOST_REACH) {
            throw new IllegalArgumentException("reach is out of range");
        }
        needCost(cost);
        needRoomForEntry();
        return keep(new Split(cost, first, second, reach));
    }

    /** Takes an entry out, and the cards for it; returns how many readers had one. */
    public int takeOut(int entry) throws NoSuchElementException {
        needEntry(entry);
        made[entry] = null;
        int had = 0;
        for (int reader = 0; reader < READERS; reader++) {
            if (cards.has(reader, entry)) {
                cards.drop(reader, entry);
                had++;
            }
        }
        return had;
    }

    /** Returns how many entries are there. */
    public int entries() {
        int count = 0;
        for (Entry entry : made) {
            if (entry != null) {
                count++;
            }
        }
        return count;
    }

    // ---- the sentence and its covers

    /** Adds a word at the end of the sentence; returns how many words it has then. */
    public int say(int word) throws IndexOutOfBoundsException, IllegalStateException {
        needWord(word);
        if (sentence.isFull()) {
            throw new IllegalStateException("the sentence is full");
        }
        return sentence.put(word);
    }

    /** Empties the sentence; returns how many words it had. */
    public int clear() {
        return sentence.empty();
    }

    /** Sets the bare cost; returns the one before. */
    public int setBare(int cost) throws IllegalArgumentException {
        if (cost < 1 || cost > MOST_BARE) {
            throw new IllegalArgumentException("cost is out of range");
        }
        int before = bare;
        bare = cost;
        return before;
    }

    /** Returns in how many ways entries that are there stand in the sentence. */
    public int standings() {
        findStandings();
        return found.count;
    }

    /** Returns the cost of the best cover, found place by place from the end of the sentence. */
    public int cost() {
        findStandings();
        covers.weigh(found, sentence.size, bare);
        return covers.leastCost();
    }

    /** Returns the cost of the best cover, found by trying all covers. */
    public int costByAll() {
        findStandings();
        return Standings.leastOfAll(found, 0, 0, bare * sentence.size, bare, 0);
    }

    /** Returns the entry whose standing takes a place in the best cover, or NONE. */
    public int glossAt(int place) throws IndexOutOfBoundsException {
        needPlace(place);
        chooseCover();
        return found.entryOf(covers.pickAt(place));
    }

    /** Returns the places of the standing that takes a place in the best cover, or 0. */
    public int placesAt(int place) throws IndexOutOfBoundsException {
        needPlace(place);
        chooseCover();
        return found.placesOf(covers.pickAt(place));
    }

    // ---- readers, cards and days

    /** Returns for how many entries of the best cover a reader has no card. */
    public int newEntries(int reader) throws IndexOutOfBoundsException {
        needReader(reader);
        chooseCover();
        int count = 0;
        for (int entry = 0; entry < MOST_ENTRIES; entry++) {
            if (isInCover(entry) && !cards.has(reader, entry)) {
                count++;
            }
        }
        return count;
    }

    /** Gives a reader a card for an entry; returns how many cards the reader has then. */
    public int learn(int reader, int entry)
            throws IndexOutOfBoundsException, NoSuchElementException, IllegalStateException {
        needReader(reader);
        needEntry(entry);
        if (cards.has(reader, entry)) {
            throw new IllegalStateException("the reader has a card for it");
        }
        cards.put(reader, entry, 1, day);
        return cards.countOf(reader);
    }

    /** Reviews a card that is due; returns its interval then. */
    public int review(int reader, int entry, boolean goesWell)
            throws IndexOutOfBoundsException, NoSuchElementException, IllegalStateException {
        needReader(reader);
        needEntry(entry);
        if (!cards.isDue(reader, entry, day)) {
            throw new IllegalStateException("the reader has no card for it that is due");
        }
        int twice = Math.min(2 * cards.intervalOf(reader, entry), MOST_INTERVAL);
        int interval = goesWell ? twice : 1;
        cards.put(reader, entry, interval, day);
        return interval;
    }

    /** Returns whether a reader knows an entry. */
    public boolean knows(int reader, int entry)
            throws IndexOutOfBoundsException, NoSuchElementException {
        needReader(reader);
        needEntry(entry);
        return cards.intervalOf(reader, entry) >= KNOWN_INTERVAL;
    }

    /** Returns how many cards of a reader are due today or were due before. */
    public int due(int reader) throws IndexOutOfBoundsException {
        needReader(reader);
        int count = 0;
        for (int entry = 0; entry < MOST_ENTRIES; entry++) {
            if (cards.isDue(reader, entry, day)) {
                count++;
            }
        }
        return count;
    }

    /** Returns the entry of the card of a reader that is due first, or NONE. */
    public int nextDue(int reader) throws IndexOutOfBoundsException {
        needReader(reader);
        return cards.firstOf(reader);
    }

    /** Lets days pass; returns the day then. */
    public int pass(int days) throws IllegalArgumentException {
        if (days < 1 || days > MOST_DAYS) {
            throw new IllegalArgumentException("days is out of range");
        }
        day += days;
        return day;
    }

    // ---- what several calls need

    private static void needWord(int word) {
        if (word < 0 || word >= WORDS) {
            throw new IndexOutOfBoundsException("there is no such word");
        }
    }

    private static void needCost(int cost) {
        if (cost < 1 || cost > MOST_COST) {
            throw new IllegalArgumentException("cost is out of range");
        }
    }

    private static void needReader(int reader) {
        if (reader < 0 || reader >= READERS) {
            throw new IndexOutOfBoundsException("there is no such reader");
        }
    }

    private void needEntry(int entry) {
        if (entry < 0 || entry >= made.length || made[entry] == null) {
            throw new NoSuchElementException("there is no such entry");
        }
    }

    private void needRoomForEntry() {
        if (madeCount >= made.length) {
            throw new IllegalStateException("as many entries were made as may be");
        }
    }

    private void needPlace(int place) {
        if (!sentence.hasPlace(place)) {
            throw new IndexOutOfBoundsException("the sentence has no such place");
        }
    }

    /** Keeps a new entry, for which needRoomForEntry() has found room; returns its number. */
    private int keep(Entry entry) {
        int number = madeCount;
        if (number < made.length) {
            made[number] = entry;
            madeCount++;
        }
        return number;
    }

    private void findStandings() {
        found.empty();
        for (int number = 0; number < made.length; number++) {
            Entry entry = made[number];
            if (entry != null) {
                entry.find(number, rules, sentence, found);
            }
        }
    }

    private void chooseCover() {
        findStandings();
        covers.weigh(found, sentence.size, bare);
        covers.choose(found);
    }

    /** Tells whether an entry stands in the cover that chooseCover() has chosen. */
    private boolean isInCover(int entry) {
        for (int place = 0; place < MOST_PLACES; place++) {
            if (found.entryOf(covers.pickAt(place)) == entry) {
                return true;
            }
        }
        return false;
    }

    /** The rules that lead forms back to headwords. */
    private static final class Rules {
        private final int[] kinds = new int[MOST_RULES];
        private final int[] steps = new int[MOST_RULES];
        private int count;

        private boolean isFull() {
            return count >= MOST_RULES;
        }

        private int put(int kind, int step) {
            int number = count;
            if (number < MOST_RULES) {
                kinds[number] = kind;
                steps[number] = step;
                count++;
            }
            return number;
        }

        private boolean leadBack(int word, int headword) {
            if (word == headword) {
                return true;
            }
            for (int i = 0; i < count && i < MOST_RULES; i++) {
                if (kinds[i] == headword % KINDS && word == headword + steps[i]) {
                    return true;
                }
            }
            return false;
        }
    }

    /** The row of words that is read. */
    private static final class Sentence {
        private final int[] words = new int[MOST_PLACES];
        private int size;

        private boolean isFull() {
            return size >= MOST_PLACES;
        }

        private boolean hasPlace(int place) {
            return place >= 0 && place < size && place < MOST_PLACES;
        }

        private int put(int word) {
            if (size < MOST_PLACES) {
                words[size] = word;
                size++;
            }
            return size;
        }

        private int empty() {
            int had = size;
            size = 0;
            return had;
        }

        /** Tells whether there is such a place, and a form of the headword in it. */
        private boolean hasFormAt(int place, int headword, Rules rules) {
            return hasPlace(place) && rules.leadBack(words[place], headword);
        }
    }

    /** What a reader can look up; it has a price, which the document calls its cost. */
    private abstract static class Entry {
        final int price;

        Entry(int price) {
            this.price = price;
        }

        /**
         * Puts the entry's standings in the sentence among those found. Those with the same first
         * place come with the lesser set of places first, for the choice of the best cover.
         */
        abstract void find(int number, Rules rules, Sentence sentence, Standings found);
    }

    /** Parts that stand one after the other; an open one is NONE. */
    private static final class Phrase extends Entry {
        private final int[] parts;

        Phrase(int price, int[] parts) {
            super(price);
            this.parts = parts;
        }

        void find(int number, Rules rules, Sentence sentence, Standings found) {
            for (int from = 0; from < MOST_PLACES; from++) {
                int places = placesFrom(from, rules, sentence);
                if (places != 0) {
                    found.put(number, places, price);
                }
            }
        }

        /** Returns the places that the phrase takes from one on; 0 if it does not stand there. */
        private int placesFrom(int from, Rules rules, Sentence sentence) {
            int places = 0;
            for (int i = 0; i < parts.length; i++) {
                if (parts[i] != NONE) {
                    if (!sentence.hasFormAt(from + i, parts[i], rules)) {
                        return 0;
                    }
                    places |= 1 << (from + i);
                }
            }
            return places;
        }
    }

    /** Two headwords that stand apart by at most as many words as the reach. */
    private static final class Split extends Entry {
        private final int first;
        private final int second;
        private final int reach;

        Split(int price, int first, int second, int reach) {
            super(price);
            this.first = first;
            this.second = second;
            this.reach = reach;
        }

        void find(int number, Rules rules, Sentence sentence, Standings found) {
            for (int from = 0; from < MOST_PLACES; from++) {
                if (sentence.hasFormAt(from, first, rules)) {
                    findFrom(from, number, rules, sentence, found);
                }
            }
        }

        private void findFrom(
                int from, int number, Rules rules, Sentence sentence, Standings found) {
            for (int between = 0; between <= reach; between++) {
                int behind = from + 1 + between;
                if (sentence.hasFormAt(behind, second, rules)) {
                    found.put(number, (1 << from) | (1 << behind), price);
                }
            }
        }
    }

    /** The ways in which entries stand in the sentence, by the number of the entry. */
    private static final class Standings {
        private final int[] numbers = new int[MOST_STANDINGS];
        private final int[] places = new int[MOST_STANDINGS];
        private final int[] prices = new int[MOST_STANDINGS];
        private int count;

        private void empty() {
            count = 0;
        }

        private void put(int number, int itsPlaces, int price) {
            if (count < MOST_STANDINGS) {
                numbers[count] = number;
                places[count] = itsPlaces;
                prices[count] = price;
                count++;
            }
        }

        private boolean has(int index) {
            return index >= 0 && index < count && index < MOST_STANDINGS;
        }

        private int entryOf(int index) {
            return has(index) ? numbers[index] : NONE;
        }

        private int placesOf(int index) {
            return has(index) ? places[index] : 0;
        }

        private int priceOf(int index) {
            return has(index) ? prices[index] : 0;
        }

        /** Tells whether a standing begins at a place and takes none that is taken. */
        private boolean fitsFrom(int index, int place, int taken) {
            int its = placesOf(index);
            return Integer.numberOfTrailingZeros(its) == place && (its & taken) == 0;
        }

        /**
         * Returns the least cost of the covers that have the standings chosen so far, which take
         * the places in taken and with the bare ones cost as much as spent, and any of those from
         * an index on. Each call is one cover, and each level of calls takes a place at least.
         */
        private static int leastOfAll(
                Standings list, int from, int taken, int spent, int bare, int depth) {
            int least = spent;
            if (depth >= MOST_PLACES) {
                return least;
            }
            for (int i = from; i < list.count; i++) {
                int its = list.placesOf(i);
                if ((its & taken) == 0) {
                    int more = list.priceOf(i) - bare * Integer.bitCount(its);
                    int cost = leastOfAll(list, i + 1, taken | its, spent + more, bare, depth + 1);
                    least = Math.min(least, cost);
                }
            }
            return least;
        }
    }

    /** The covers of the sentence, weighed place by place, and the best one. */
    private static final class Covers {
        private static final int SETS = 1 << MOST_PLACES;

        // least[place][taken] is what the places from that one on cost at least, if those in taken
        // are taken by standings that begin before it; behind the last place it is 0 for ever.
        private final int[][] least = new int[MOST_PLACES + 1][SETS];
        private final int[] picks = new int[MOST_PLACES];

        private void weigh(Standings found, int size, int bare) {
            for (int place = MOST_PLACES - 1; place >= 0; place--) {
                int idle = place < size ? bare : 0;
                for (int taken = 0; taken < SETS; taken++) {
                    least[place][taken] = leastFrom(place, taken, found, idle);
                }
            }
        }

        private int leastFrom(int place, int taken, Standings found, int idle) {
            if ((taken >> place & 1) == 1) {
                return least[place + 1][taken];
            }
            int best = idle + least[place + 1][taken];
            for (int i = 0; i < found.count; i++) {
                if (found.fitsFrom(i, place, taken)) {
                    best = Math.min(best, costWith(i, place, taken, found));
                }
            }
            return best;
        }

        /** Returns what the places from one on cost at least with a standing that fits there. */
        private int costWith(int index, int place, int taken, Standings found) {
            int then = (taken | found.placesOf(index)) & (SETS - 1);
            return found.priceOf(index) + least[place + 1][then];
        }

        private int leastCost() {
            return least[0][0];
        }

        /** Chooses the best cover, after weigh(). */
        private void choose(Standings found) {
            Arrays.fill(picks, NONE);
            int taken = 0;
            for (int place = 0; place < MOST_PLACES; place++) {
                if ((taken >> place & 1) == 0) {
                    int index = bestFrom(place, taken, found);
                    int its = found.placesOf(index);
                    mark(its, index);
                    taken = (taken | its) & (SETS - 1);
                }
            }
        }

        /** Returns the first standing by number and places that a best cover has here, or NONE. */
        private int bestFrom(int place, int taken, Standings found) {
            for (int i = 0; i < found.count; i++) {
                if (found.fitsFrom(i, place, taken)
                        && costWith(i, place, taken, found) == least[place][taken]) {
                    return i;
                }
            }
            return NONE;
        }

        private void mark(int places, int index) {
            for (int place = 0; place < MOST_PLACES; place++) {
                if ((places >> place & 1) == 1) {
                    picks[place] = index;
                }
            }
        }

        /** Returns the standing that takes a place in the cover chosen last, or NONE. */
        private int pickAt(int place) {
            return place >= 0 && place < MOST_PLACES ? picks[place] : NONE;
        }
    }

    /** The cards of all readers; an interval of 0 says that there is no card. */
    private static final class Cards {
        private final int[][] intervals = new int[READERS][MOST_ENTRIES];
        private final int[][] days = new int[READERS][MOST_ENTRIES];

        private boolean hasRoom(int reader, int entry) {
            return reader >= 0 && reader < READERS && entry >= 0 && entry < MOST_ENTRIES;
        }

        private int intervalOf(int reader, int entry) {
            return hasRoom(reader, entry) ? intervals[reader][entry] : 0;
        }

        private boolean has(int reader, int entry) {
            return intervalOf(reader, entry) > 0;
        }

        private boolean isDue(int reader, int entry, int today) {
            return has(reader, entry) && days[reader][entry] <= today;
        }

        private void put(int reader, int entry, int interval, int today) {
            if (hasRoom(reader, entry)) {
                intervals[reader][entry] = interval;
                days[reader][entry] = today + interval;
            }
        }

        private void drop(int reader, int entry) {
            if (hasRoom(reader, entry)) {
                intervals[reader][entry] = 0;
            }
        }

        private int countOf(int reader) {
            int count = 0;
            for (int entry = 0; entry < MOST_ENTRIES; entry++) {
                if (has(reader, entry)) {
                    count++;
                }
            }
            return count;
        }

        private int firstOf(int reader) {
            int first = NONE;
            for (int entry = 0; entry < MOST_ENTRIES; entry++) {
                if (has(reader, entry)
                        && (first == NONE || days[reader][entry] < days[reader][first])) {
                    first = entry;
                }
            }
            return first;
        }
    }
}
