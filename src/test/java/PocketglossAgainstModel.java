import java.util.ArrayList;
import java.util.List;
import java.util.NoSuchElementException;
import java.util.TreeMap;

/**
 * Long runs of calls, each answer compared with that of a plain model of the document's words: its
 * covers are all subsets of the standings without a place taken twice, compared one by one.
 */
public final class PocketglossAgainstModel {
    private static final int RUNS = 400;
    private static final int CALLS = 512;
    private static final String[] NAMES = {
        "addRule", "headwords", "isForm", "part", "addPhrase", "addSplit", "takeOut", "entries",
        "say", "clear", "setBare", "standings", "cost", "costByAll", "glossAt", "placesAt",
        "newEntries", "learn", "review", "knows", "due", "nextDue", "pass"
    };

    /** How often each call is made, beside the others. */
    private static final int[] OFTEN = {
        2, 2, 3, 12, 5, 4, 1, 1, 14, 1, 2, 5, 5, 2, 10, 8, 5, 8, 14, 5, 5, 5, 9
    };

    private static int seed = 1;
    private static int wrong = 0;
    private static final TreeMap<String, Integer> seen = new TreeMap<>();

    private static int next(int bound) {
        seed = seed * 1103515245 + 12345;
        return (seed >>> 8) % bound;
    }

    private static final class Item {
        int number;
        boolean split;
        List<Integer> parts = new ArrayList<>();
        int reach;
        int cost;
    }

    private static final class Standing {
        Item item;
        int places;
    }

    private static final class Card {
        int interval = 1;
        int dueOn;
    }

    /** Throws what the document names; its methods carry out a call by name. */
    private static final class Model {
        final List<int[]> rules = new ArrayList<>();
        final TreeMap<Integer, Item> items = new TreeMap<>();
        final List<TreeMap<Integer, Card>> cards = new ArrayList<>();
        int made = 0;
        List<Integer> draft = new ArrayList<>();
        List<Integer> words = new ArrayList<>();
        int bare = 10;
        int day = 0;
        List<Standing> best = null;

        Model() {
            for (int i = 0; i < 3; i++) {
                cards.add(new TreeMap<>());
            }
        }

        long call(String name, int a, int b, int c, int d, boolean well) {
            switch (name) {
                case "addRule": return addRule(a, b);
                case "headwords": return headwords(a);
                case "isForm": index(a, 100); index(b, 100); return form(a, b) ? 1 : 0;
                case "part": return part(a);
                case "addPhrase": return addPhrase(a);
                case "addSplit": return addSplit(a, b, c, d);
                case "takeOut": return takeOut(a);
                case "entries": return items.size();
                case "say": return say(a);
                case "clear": return clear();
                case "setBare": return setBare(a);
                case "standings": return all().size();
                case "cost": return costOf(best());
                case "costByAll": return costOf(best());
                case "glossAt": return glossAt(a);
                case "placesAt": return placesAt(a);
                case "newEntries": return newEntries(a);
                case "learn": return learn(a, b);
                case "review": return review(a, b, well);
                case "knows": return knows(a, b);
                case "due": return due(a);
                case "nextDue": return nextDue(a);
                default: return pass(a);
            }
        }

        void index(int i, int bound) {
            if (i < 0 || i >= bound) {
                throw new IndexOutOfBoundsException();
            }
        }

        void range(int i, int from, int to) {
            if (i < from || i > to) {
                throw new IllegalArgumentException();
            }
        }

        void state(boolean fine) {
            if (!fine) {
                throw new IllegalStateException();
            }
        }

        void there(int entry) {
            if (!items.containsKey(entry)) {
                throw new NoSuchElementException();
            }
        }

        boolean form(int word, int headword) {
            boolean is = word == headword;
            for (int[] rule : rules) {
                is |= rule[0] == headword % 3 && word == headword + rule[1];
            }
            return is;
        }

        int addRule(int kind, int step) {
            range(kind, 0, 2);
            range(step, 1, 50);
            state(rules.size() < 6);
            rules.add(new int[] {kind, step});
            best = null;
            return rules.size() - 1;
        }

        int headwords(int word) {
            index(word, 100);
            int count = 0;
            for (int headword = 0; headword < 100; headword++) {
                count += form(word, headword) ? 1 : 0;
            }
            return count;
        }

        int part(int headword) {
            if (headword != -1) {
                index(headword, 100);
            }
            state(draft.size() < 4 && !(headword == -1 && draft.isEmpty()));
            draft.add(headword);
            return draft.size();
        }

        int addPhrase(int cost) {
            range(cost, 1, 20);
            state(!draft.isEmpty() && draft.get(draft.size() - 1) != -1 && made < 8);
            Item item = new Item();
            item.parts = draft;
            draft = new ArrayList<>();
            return add(item, cost);
        }

        int addSplit(int first, int second, int reach, int cost) {
            index(first, 100);
            index(second, 100);
            range(reach, 0, 4);
            range(cost, 1, 20);
            state(made < 8);
            Item item = new Item();
            item.split = true;
            item.parts.add(first);
            item.parts.add(second);
            item.reach = reach;
            return add(item, cost);
        }

        int add(Item item, int cost) {
            item.cost = cost;
            item.number = made;
            items.put(made, item);
            best = null;
            return made++;
        }

        int takeOut(int entry) {
            there(entry);
            items.remove(entry);
            best = null;
            int had = 0;
            for (TreeMap<Integer, Card> own : cards) {
                had += own.remove(entry) != null ? 1 : 0;
            }
            return had;
        }

        int say(int word) {
            index(word, 100);
            state(words.size() < 6);
            words.add(word);
            best = null;
            return words.size();
        }

        int clear() {
            int had = words.size();
            words.clear();
            best = null;
            return had;
        }

        int setBare(int cost) {
            range(cost, 1, 50);
            int before = bare;
            bare = cost;
            best = null;
            return before;
        }

        /** All sets of places by their sums, each tested against each entry. */
        List<Standing> all() {
            List<Standing> found = new ArrayList<>();
            for (Item item : items.values()) {
                for (int places = 1; places < 1 << words.size(); places++) {
                    if (item.split ? splitIn(item, places) : phraseIn(item, places)) {
                        Standing standing = new Standing();
                        standing.item = item;
                        standing.places = places;
                        found.add(standing);
                    }
                }
            }
            return found;
        }

        boolean splitIn(Item item, int places) {
            int from = Integer.numberOfTrailingZeros(places);
            int to = 31 - Integer.numberOfLeadingZeros(places);
            return Integer.bitCount(places) == 2
                    && to - from - 1 <= item.reach
                    && form(words.get(from), item.parts.get(0))
                    && form(words.get(to), item.parts.get(1));
        }

        boolean phraseIn(Item item, int places) {
            int from = Integer.numberOfTrailingZeros(places);
            int due = 0;
            for (int i = 0; i < item.parts.size(); i++) {
                if (item.parts.get(i) != -1) {
                    due |= 1 << from + i;
                    if (from + i >= words.size() || !form(words.get(from + i), item.parts.get(i))) {
                        return false;
                    }
                }
            }
            return due == places;
        }

        List<Standing> best() {
            if (best == null) {
                best = new ArrayList<>();
                tryWith(all(), 0, 0, new ArrayList<>());
            }
            return best;
        }

        void tryWith(List<Standing> found, int from, int taken, List<Standing> cover) {
            if (isBetter(cover)) {
                best = new ArrayList<>(cover);
            }
            for (int i = from; i < found.size(); i++) {
                if ((found.get(i).places & taken) == 0) {
                    cover.add(found.get(i));
                    tryWith(found, i + 1, taken | found.get(i).places, cover);
                    cover.remove(cover.size() - 1);
                }
            }
        }

        boolean isBetter(List<Standing> cover) {
            if (costOf(cover) != costOf(best)) {
                return costOf(cover) < costOf(best);
            }
            for (int place = 0; place < words.size(); place++) {
                Standing mine = at(cover, place);
                Standing other = at(best, place);
                if (mine != other) {
                    if (mine == null || other == null) {
                        return other == null;
                    }
                    return mine.item != other.item
                            ? mine.item.number < other.item.number
                            : mine.places < other.places;
                }
            }
            return false;
        }

        Standing at(List<Standing> cover, int place) {
            for (Standing standing : cover) {
                if ((standing.places >> place & 1) == 1) {
                    return standing;
                }
            }
            return null;
        }

        int costOf(List<Standing> cover) {
            int cost = bare * words.size();
            for (Standing standing : cover) {
                cost += standing.item.cost - bare * Integer.bitCount(standing.places);
            }
            return cost;
        }

        int glossAt(int place) {
            index(place, words.size());
            Standing standing = at(best(), place);
            return standing == null ? -1 : standing.item.number;
        }

        int placesAt(int place) {
            index(place, words.size());
            Standing standing = at(best(), place);
            return standing == null ? 0 : standing.places;
        }

        int newEntries(int reader) {
            index(reader, 3);
            List<Item> fresh = new ArrayList<>();
            for (Standing standing : best()) {
                Item item = standing.item;
                if (!fresh.contains(item) && !cards.get(reader).containsKey(item.number)) {
                    fresh.add(item);
                }
            }
            return fresh.size();
        }

        int learn(int reader, int entry) {
            index(reader, 3);
            there(entry);
            state(!cards.get(reader).containsKey(entry));
            Card card = new Card();
            card.dueOn = day + 1;
            cards.get(reader).put(entry, card);
            return cards.get(reader).size();
        }

        int review(int reader, int entry, boolean well) {
            index(reader, 3);
            there(entry);
            Card card = cards.get(reader).get(entry);
            state(card != null && card.dueOn <= day);
            card.interval = well ? Math.min(64, card.interval * 2) : 1;
            card.dueOn = day + card.interval;
            return card.interval;
        }

        int knows(int reader, int entry) {
            index(reader, 3);
            there(entry);
            Card card = cards.get(reader).get(entry);
            return card != null && card.interval >= 8 ? 1 : 0;
        }

        int due(int reader) {
            index(reader, 3);
            int count = 0;
            for (Card card : cards.get(reader).values()) {
                count += card.dueOn <= day ? 1 : 0;
            }
            return count;
        }

        int nextDue(int reader) {
            index(reader, 3);
            int first = -1;
            for (int entry : cards.get(reader).keySet()) {
                Card card = cards.get(reader).get(entry);
                if (first == -1 || card.dueOn < cards.get(reader).get(first).dueOn) {
                    first = entry;
                }
            }
            return first;
        }

        int pass(int days) {
            range(days, 1, 100);
            day += days;
            return day;
        }
    }

    private static long callReal(
            Pocketgloss x, String name, int a, int b, int c, int d, boolean well) {
        switch (name) {
            case "addRule": return x.addRule(a, b);
            case "headwords": return x.headwords(a);
            case "isForm": return x.isForm(a, b) ? 1 : 0;
            case "part": return x.part(a);
            case "addPhrase": return x.addPhrase(a);
            case "addSplit": return x.addSplit(a, b, c, d);
            case "takeOut": return x.takeOut(a);
            case "entries": return x.entries();
            case "say": return x.say(a);
            case "clear": return x.clear();
            case "setBare": return x.setBare(a);
            case "standings": return x.standings();
            case "cost": return x.cost();
            case "costByAll": return x.costByAll();
            case "glossAt": return x.glossAt(a);
            case "placesAt": return x.placesAt(a);
            case "newEntries": return x.newEntries(a);
            case "learn": return x.learn(a, b);
            case "review": return x.review(a, b, well);
            case "knows": return x.knows(a, b) ? 1 : 0;
            case "due": return x.due(a);
            case "nextDue": return x.nextDue(a);
            default: return x.pass(a);
        }
    }

    private static String real(
            Pocketgloss x, String name, int a, int b, int c, int d, boolean well) {
        try {
            return Long.toString(callReal(x, name, a, b, c, d, well));
        } catch (RuntimeException e) {
            return e.getClass().getName();
        }
    }

    private static String due(Model x, String name, int a, int b, int c, int d, boolean well) {
        try {
            return Long.toString(x.call(name, a, b, c, d, well));
        } catch (RuntimeException e) {
            return e.getClass().getName();
        }
    }

    private static String anyName() {
        int sum = 0;
        for (int often : OFTEN) {
            sum += often;
        }
        int at = next(sum);
        int i = 0;
        while (at >= OFTEN[i]) {
            at -= OFTEN[i];
            i++;
        }
        return NAMES[i];
    }

    /** A number from a range, and sometimes one beside it or far away. */
    private static int any(int from, int to) {
        int dice = next(60);
        if (dice == 0) {
            return from - 1;
        }
        if (dice == 1) {
            return to + 1;
        }
        if (dice == 2) {
            return next(2) == 0 ? Integer.MIN_VALUE + next(3) : Integer.MAX_VALUE - next(3);
        }
        return from + next(to - from + 1);
    }

    private static int anyWord(int words) {
        return next(80) == 0 ? any(0, 99) : next(40) == 0 ? 99 - next(3) : any(0, words);
    }

    private static int[] arguments(String name, int words, int dear) {
        switch (name) {
            case "addRule": return new int[] {any(0, 2), next(4) == 0 ? any(1, 50) : any(1, 6)};
            case "headwords": case "say": return new int[] {anyWord(words)};
            case "isForm": return new int[] {anyWord(words), anyWord(words)};
            case "part": return new int[] {next(4) == 0 ? -1 : anyWord(words)};
            case "addPhrase": return new int[] {any(Math.max(1, 20 - dear), 20)};
            case "addSplit": return new int[] {
                anyWord(words), anyWord(words), any(0, 4), any(Math.max(1, 20 - dear), 20)
            };
            case "takeOut": return new int[] {any(0, 7)};
            case "setBare": return new int[] {next(3) == 0 ? any(1, 50) : any(5, 20)};
            case "glossAt": case "placesAt": return new int[] {any(0, 5)};
            case "learn": case "review": case "knows": return new int[] {any(0, 2), any(0, 7)};
            case "pass": return new int[] {next(3) == 0 ? any(1, 100) : any(1, 5)};
            default: return new int[] {any(0, 2)};
        }
    }

    private static void run(int number) {
        Pocketgloss x = new Pocketgloss();
        Model model = new Model();
        int words = number % 5 == 0 ? 99 : 1 + number % 9;
        int dear = next(20);
        StringBuilder told = new StringBuilder();
        for (int call = 0; call < CALLS && wrong < 20; call++) {
            String name = anyName();
            int[] row = java.util.Arrays.copyOf(arguments(name, words, dear), 4);
            boolean well = next(5) > 0;
            String due = due(model, name, row[0], row[1], row[2], row[3], well);
            String got = real(x, name, row[0], row[1], row[2], row[3], well);
            String line = name + java.util.Arrays.toString(row) + (well ? " well" : "");
            told.append(line).append(" -> ").append(due).append('\n');
            String kind = name + (due.startsWith("java") ? " throws " + due : " answers");
            seen.merge(kind, 1, Integer::sum);
            if (!got.equals(due)) {
                wrong++;
                System.out.println("run " + number + ", call " + call + ": " + line
                        + " answered " + got + ", due is " + due);
                System.out.println(told);
                return;
            }
        }
    }

    public static void main(String[] args) {
        for (int number = 0; number < RUNS && wrong < 3; number++) {
            run(number);
        }
        if (args.length > 0) {
            System.out.println(seen);
        }
        System.out.println(RUNS + " runs of " + CALLS + " calls against the model, " + wrong
                + " wrong");
        if (wrong != 0) {
            System.exit(1);
        }
    }
}
