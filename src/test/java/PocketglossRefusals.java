/**
 * Each throws clause of the document: the exception that it names, the one that goes first where
 * several apply, and that nothing has changed after a call that throws.
 *
 * <p>Each refused call is made on an object in some scene; another object in the same scene is
 * spared it. Both are then asked for everything that later answers can tell.
 */
public final class PocketglossRefusals extends Checks {
    private static final int[] NO_WORDS = {
        Integer.MIN_VALUE, -100, -3, -2, 100, 101, 1_000_000, Integer.MAX_VALUE
    };
    private static final int[] NO_READERS = {
        Integer.MIN_VALUE, -2, -1, 3, 4, 1_000_000, Integer.MAX_VALUE
    };
    private static final int[] NEVER_ENTRIES = {
        Integer.MIN_VALUE, -2, -1, 8, 9, 1_000_000, Integer.MAX_VALUE
    };
    private static final int[] NO_COSTS = {
        Integer.MIN_VALUE, -1, 0, 21, 22, Integer.MAX_VALUE
    };
    private static final boolean[] WELL = {false, true};

    private interface Made {
        long answer(Pocketgloss x);
    }

    /** What has been told to an object before the call that is to be refused. */
    private enum Scene {
        NEW("", "", "", 0),
        /** Some of everything, with room for more; entry 1 is out, and the draft could end. */
        SOME("0 2 3", "00 03 13 20 22", "13", 3),
        /** The same, but the draft has become a phrase. */
        DRAFT_ENDED("0 2 3 4", "00 03 13 20 22", "13", 3),
        /** A draft that can go on, but not end. */
        OPEN_END("0", "10", "10", 5),
        /** All entries were made, and all are out; the draft is empty. */
        ALL_OUT("", "", "", 6),
        /** As many rules, entries, parts and words as may be. */
        FULL("0 1 2 3 4 5 6 7", "02 12 17 20 25", "02 12 20", 6),
        /** The same, but two entries are out, and the draft can neither go on nor end. */
        FULL_BUT_TWO("1 2 3 4 5 6", "02 12 25", "02 12", 6);

        private final String entries;
        private final String cards;
        private final String due;
        private final int words;

        Scene(String entries, String cards, String due, int words) {
            this.entries = entries;
            this.cards = cards;
            this.due = due;
            this.words = words;
        }

        boolean has(int entry) {
            return entries.contains("" + entry);
        }

        boolean hasCard(int reader, int entry) {
            return cards.contains("" + reader + entry);
        }

        boolean hasDue(int reader, int entry) {
            return due.contains("" + reader + entry);
        }

        Pocketgloss begin() {
            Pocketgloss x = new Pocketgloss();
            switch (this) {
                case NEW:
                    break;
                case SOME:
                    tellSome(x);
                    break;
                case DRAFT_ENDED:
                    tellSome(x);
                    x.addPhrase(2);
                    break;
                case OPEN_END:
                    tellOpenEnd(x);
                    break;
                case ALL_OUT:
                    tellAllOut(x);
                    break;
                case FULL:
                    tellFull(x);
                    x.part(5);
                    break;
                default:
                    tellFull(x);
                    x.part(NONE);
                    x.takeOut(0);
                    x.takeOut(7);
            }
            return x;
        }

        private static void tellSome(Pocketgloss x) {
            x.addRule(0, 1);
            x.addRule(2, 50);
            phrase(x, 4, 3);
            phrase(x, 5, 3, 5);
            x.addSplit(3, 5, 1, 8);
            phrase(x, 5, 5);
            x.part(3);
            x.part(NONE);
            x.part(5);
            tell(x, 3, 4, 5);
            x.setBare(7);
            x.learn(0, 0);
            x.learn(0, 1);
            x.learn(1, 3);
            x.takeOut(1);
            x.pass(1);
            x.review(0, 0, true);
            x.learn(0, 3);
            x.learn(2, 0);
            x.learn(2, 2);
        }

        private static void tellOpenEnd(Pocketgloss x) {
            phrase(x, 20, 3, NONE, NONE, 5);
            x.part(3);
            x.part(NONE);
            tell(x, 3, 3, 3, 5, 5);
            x.learn(1, 0);
            x.pass(3);
        }

        private static void tellAllOut(Pocketgloss x) {
            for (int entry = 0; entry < 8; entry++) {
                x.addSplit(3, 5, 4, 1);
                x.learn(entry % 3, entry);
            }
            for (int entry = 0; entry < 8; entry++) {
                x.takeOut(entry);
            }
            tell(x, 3, 5, 3, 5, 3, 5);
        }

        private static void tellFull(Pocketgloss x) {
            for (int i = 0; i < 6; i++) {
                x.addRule(i % 3, 1 + i / 3);
            }
            for (int i = 0; i < 7; i++) {
                x.addSplit(3, 5, i % 5, 20 - i);
            }
            phrase(x, 1, 5);
            x.part(3);
            x.part(NONE);
            x.part(3);
            tell(x, 3, 3, 4, 5, 7, 6);
            x.setBare(50);
            x.learn(0, 2);
            x.learn(1, 2);
            x.learn(1, 7);
            x.learn(2, 0);
            x.pass(2);
            x.review(1, 7, true);
            x.pass(2);
            x.review(1, 7, true);
            x.learn(2, 5);
        }
    }

    /** All that later answers can tell; it changes the object, in less than 300 calls. */
    private static String all(Pocketgloss x) {
        StringBuilder all = new StringBuilder(look(x));
        all.append(", bare ").append(x.setBare(10));
        askOfDraft(x, all);
        askOfCards(x, all);
        for (int i = 0; i < 7; i++) {
            all.append(", rule ").append(outcome(() -> x.addRule(0, 3)));
        }
        for (int i = 0; i < 9; i++) {
            all.append(", split ").append(outcome(() -> x.addSplit(0, 0, 0, 1)));
        }
        for (int i = 0; i < 8; i++) {
            int entry = i;
            all.append(", out ").append(outcome(() -> x.takeOut(entry)));
        }
        return all.append(", words ").append(x.clear()).toString();
    }

    private static void askOfDraft(Pocketgloss x, StringBuilder all) {
        for (int i = 0; i < 5; i++) {
            all.append(", part ").append(outcome(() -> x.part(7)));
        }
        all.append(", phrase ").append(outcome(() -> x.addPhrase(1)));
        for (int[] words : new int[][] {{3, 0, 5, 7}, {3, 0, 7, 7}, {3, 3, 7, 7}, {7, 7, 7, 7}}) {
            tell(x, words);
            all.append(", cost ").append(x.cost()).append(' ').append(x.standings());
            all.append(" with ").append(x.placesAt(0));
        }
    }

    private static void askOfCards(Pocketgloss x, StringBuilder all) {
        for (int i = 0; i < 9; i++) {
            for (int reader = 0; reader < 3; reader++) {
                all.append(", due ").append(x.due(reader));
            }
            all.append(", day ").append(x.pass(1));
        }
        for (int i = 0; i < 24; i++) {
            int reader = i / 8;
            int entry = i % 8;
            all.append(", review ").append(outcome(() -> x.review(reader, entry, true)));
        }
    }

    private static void refused(Scene scene, String call, Class<?> want, Made made) {
        String here = call + " in the scene " + scene;
        Pocketgloss x = scene.begin();
        fails(here, want, () -> made.answer(x));
        is(here + ", and then all", all(x), all(scene.begin()));
    }

    private static void refusedAnywhere(String call, Class<?> want, Made made) {
        for (Scene scene : Scene.values()) {
            refused(scene, call, want, made);
        }
    }

    private static void seen(Scene scene, String call, Made made) {
        Pocketgloss x = scene.begin();
        long answer = made.answer(x);
        boolean same = all(x).equals(all(scene.begin()));
        is("whether all is the same in " + scene + " behind " + call + " = " + answer, same, false);
    }

    /** A question that did not see what a call can change would not prove that nothing has. */
    private static void changesAreSeen() {
        for (Scene scene : new Scene[] {Scene.NEW, Scene.SOME, Scene.DRAFT_ENDED, Scene.OPEN_END}) {
            seen(scene, "addRule(2, 50)", x -> x.addRule(2, 50));
            seen(scene, "part(5)", x -> x.part(5));
            seen(scene, "addSplit(5, 5, 0, 1)", x -> x.addSplit(5, 5, 0, 1));
            seen(scene, "say(5)", x -> x.say(5));
            seen(scene, "setBare(11)", x -> x.setBare(11));
        }
        for (Scene scene : Scene.values()) {
            seen(scene, "setBare(49)", x -> x.setBare(49));
            seen(scene, "pass(1)", x -> x.pass(1));
        }
        for (Scene scene : new Scene[] {Scene.FULL, Scene.FULL_BUT_TWO}) {
            seen(scene, "takeOut(5)", x -> x.takeOut(5));
            seen(scene, "clear()", x -> x.clear());
            seen(scene, "learn(0, 6)", x -> x.learn(0, 6));
            seen(scene, "review(0, 2, false)", x -> x.review(0, 2, false));
            seen(scene, "review(0, 2, true)", x -> x.review(0, 2, true));
        }
        seen(Scene.SOME, "addPhrase(1)", x -> x.addPhrase(1));
        seen(Scene.SOME, "part(NONE)", x -> x.part(NONE));
    }

    /** addRule throws IllegalArgumentException if kind or step is out of range. */
    private static void promise02KindOrStepIsOutOfRange() {
        int[][] bad = {
            {-1, 1}, {3, 1}, {-1, 50}, {3, 50}, {0, 0}, {1, 0}, {2, 0}, {0, 51}, {1, 51}, {2, 51},
            {-1, 0}, {3, 51}, {-1, 51}, {3, 0}, {1, -1}, {0, Integer.MIN_VALUE},
            {0, Integer.MAX_VALUE}, {Integer.MIN_VALUE, 1}, {Integer.MAX_VALUE, 1}
        };
        for (int[] b : bad) {
            String call = "addRule(" + b[0] + ", " + b[1] + ")";
            refusedAnywhere(call, ARGUMENT, x -> x.addRule(b[0], b[1]));
        }
    }

    /** addRule throws IllegalStateException if there are 6. */
    private static void promise02ThereAreSixRules() {
        for (Scene scene : new Scene[] {Scene.FULL, Scene.FULL_BUT_TWO}) {
            refused(scene, "addRule(0, 1)", STATE, x -> x.addRule(0, 1));
            refused(scene, "addRule(2, 50)", STATE, x -> x.addRule(2, 50));
        }
    }

    /** headwords throws IndexOutOfBoundsException if there is no such word. */
    private static void promise03NoSuchWord() {
        refusedAnywhere("headwords(-1)", INDEX, x -> x.headwords(-1));
        for (int bad : NO_WORDS) {
            refusedAnywhere("headwords(" + bad + ")", INDEX, x -> x.headwords(bad));
        }
    }

    /** isForm throws IndexOutOfBoundsException if there is no such word or headword. */
    private static void promise04NoSuchWordOrHeadword() {
        refusedAnywhere("isForm(-1, 0)", INDEX, x -> x.isForm(-1, 0) ? 1 : 0);
        refusedAnywhere("isForm(0, -1)", INDEX, x -> x.isForm(0, -1) ? 1 : 0);
        refusedAnywhere("isForm(-1, -1)", INDEX, x -> x.isForm(-1, -1) ? 1 : 0);
        for (int bad : NO_WORDS) {
            refusedAnywhere("isForm(" + bad + ", 99)", INDEX, x -> x.isForm(bad, 99) ? 1 : 0);
            refusedAnywhere("isForm(99, " + bad + ")", INDEX, x -> x.isForm(99, bad) ? 1 : 0);
            refusedAnywhere("isForm of twice " + bad, INDEX, x -> x.isForm(bad, bad) ? 1 : 0);
        }
    }

    /** part throws IndexOutOfBoundsException if there is no such headword. */
    private static void promise05NoSuchHeadword() {
        for (int bad : NO_WORDS) {
            refusedAnywhere("part(" + bad + ")", INDEX, x -> x.part(bad));
        }
    }

    /** part throws IllegalStateException if the draft has 4 parts. */
    private static void promise05DraftHasFourParts() {
        for (Scene scene : new Scene[] {Scene.FULL, Scene.FULL_BUT_TWO}) {
            refused(scene, "part(0)", STATE, x -> x.part(0));
            refused(scene, "part(99)", STATE, x -> x.part(99));
            refused(scene, "part(NONE)", STATE, x -> x.part(NONE));
        }
    }

    /** part throws IllegalStateException if the part is open and the draft is empty. */
    private static void promise05FirstPartIsOpen() {
        for (Scene scene : new Scene[] {Scene.NEW, Scene.DRAFT_ENDED, Scene.ALL_OUT}) {
            refused(scene, "part(NONE)", STATE, x -> x.part(NONE));
        }
    }

    /** addPhrase throws IllegalArgumentException if cost is out of range. */
    private static void promise06CostIsOutOfRange() {
        for (int bad : NO_COSTS) {
            refusedAnywhere("addPhrase(" + bad + ")", ARGUMENT, x -> x.addPhrase(bad));
        }
    }

    /** addPhrase throws IllegalStateException if the draft is empty, or its last part is open. */
    private static void promise06DraftIsEmptyOrOpenAtItsEnd() {
        for (Scene scene : Scene.values()) {
            if (scene != Scene.SOME && scene != Scene.FULL) {
                refused(scene, "addPhrase(1)", STATE, x -> x.addPhrase(1));
                refused(scene, "addPhrase(20)", STATE, x -> x.addPhrase(20));
            }
        }
    }

    /** addPhrase throws IllegalStateException if 8 entries were made. */
    private static void promise06EightEntriesWereMade() {
        refused(Scene.FULL, "addPhrase(1)", STATE, x -> x.addPhrase(1));
        refused(Scene.FULL, "addPhrase(20)", STATE, x -> x.addPhrase(20));
        Pocketgloss x = Scene.ALL_OUT.begin();
        x.part(3);
        Pocketgloss y = Scene.ALL_OUT.begin();
        y.part(3);
        fails("addPhrase(1) when all are out", STATE, () -> x.addPhrase(1));
        is("all", all(x), all(y));
    }

    /** addSplit throws IndexOutOfBoundsException if there is no such first or second headword. */
    private static void promise07NoSuchFirstOrSecond() {
        int[] bads = {Integer.MIN_VALUE, -2, -1, 100, 101, Integer.MAX_VALUE};
        int[][] reachAndCost = {{0, 1}, {4, 20}, {-1, 1}, {5, 1}, {0, 0}, {4, 21}, {-1, 21}};
        for (int bad : bads) {
            for (int[] r : reachAndCost) {
                String call = "addSplit with " + bad + ", " + r[0] + ", " + r[1] + " for the ";
                refusedAnywhere(call + "first", INDEX, x -> x.addSplit(bad, 99, r[0], r[1]));
                refusedAnywhere(call + "second", INDEX, x -> x.addSplit(0, bad, r[0], r[1]));
                refusedAnywhere(call + "both", INDEX, x -> x.addSplit(bad, bad, r[0], r[1]));
            }
        }
    }

    /** addSplit throws IllegalArgumentException if reach or cost is out of range. */
    private static void promise07ReachOrCostIsOutOfRange() {
        for (int bad : NO_COSTS) {
            refusedAnywhere("addSplit of cost " + bad, ARGUMENT, x -> x.addSplit(3, 5, 4, bad));
            refusedAnywhere("addSplit of " + bad, ARGUMENT, x -> x.addSplit(0, 99, -1, bad));
        }
        for (int bad : new int[] {Integer.MIN_VALUE, -2, -1, 5, 6, Integer.MAX_VALUE}) {
            refusedAnywhere("addSplit of reach " + bad, ARGUMENT, x -> x.addSplit(3, 5, bad, 1));
            refusedAnywhere("addSplit of " + bad, ARGUMENT, x -> x.addSplit(99, 0, bad, 20));
        }
    }

    /** addSplit throws IllegalStateException if 8 entries were made. */
    private static void promise07EightEntriesWereMade() {
        for (Scene scene : new Scene[] {Scene.ALL_OUT, Scene.FULL, Scene.FULL_BUT_TWO}) {
            refused(scene, "addSplit(0, 0, 0, 1)", STATE, x -> x.addSplit(0, 0, 0, 1));
            refused(scene, "addSplit(99, 99, 4, 20)", STATE, x -> x.addSplit(99, 99, 4, 20));
        }
    }

    /** takeOut throws NoSuchElementException if there is no such entry. */
    private static void promise08NoSuchEntry() {
        for (int bad : NEVER_ENTRIES) {
            refusedAnywhere("takeOut(" + bad + ")", ELEMENT, x -> x.takeOut(bad));
        }
        for (Scene scene : Scene.values()) {
            for (int i = 0; i < 8; i++) {
                int entry = i;
                if (!scene.has(entry)) {
                    refused(scene, "takeOut(" + entry + ")", ELEMENT, x -> x.takeOut(entry));
                }
            }
        }
    }

    /** say throws IndexOutOfBoundsException if there is no such word. */
    private static void promise10NoSuchWord() {
        refusedAnywhere("say(-1)", INDEX, x -> x.say(-1));
        for (int bad : NO_WORDS) {
            refusedAnywhere("say(" + bad + ")", INDEX, x -> x.say(bad));
        }
    }

    /** say throws IllegalStateException if the sentence has 6 words. */
    private static void promise10SentenceHasSixWords() {
        for (Scene scene : Scene.values()) {
            if (scene.words == 6) {
                refused(scene, "say(0)", STATE, x -> x.say(0));
                refused(scene, "say(99)", STATE, x -> x.say(99));
            }
        }
    }

    /** setBare throws IllegalArgumentException if cost is out of range. */
    private static void promise12CostIsOutOfRange() {
        for (int bad : new int[] {Integer.MIN_VALUE, -1, 0, 51, 52, Integer.MAX_VALUE}) {
            refusedAnywhere("setBare(" + bad + ")", ARGUMENT, x -> x.setBare(bad));
        }
    }

    /** glossAt throws IndexOutOfBoundsException if the sentence has no such place. */
    private static void promise16NoSuchPlace() {
        for (Scene scene : Scene.values()) {
            for (int bad : noPlaces(scene)) {
                refused(scene, "glossAt(" + bad + ")", INDEX, x -> x.glossAt(bad));
            }
        }
    }

    /** placesAt throws IndexOutOfBoundsException if the sentence has no such place. */
    private static void promise17NoSuchPlace() {
        for (Scene scene : Scene.values()) {
            for (int bad : noPlaces(scene)) {
                refused(scene, "placesAt(" + bad + ")", INDEX, x -> x.placesAt(bad));
            }
        }
    }

    private static int[] noPlaces(Scene scene) {
        int size = scene.words;
        return new int[] {Integer.MIN_VALUE, -1, size, size + 1, 6, 7, 64, Integer.MAX_VALUE};
    }

    /** newEntries throws IndexOutOfBoundsException if there is no such reader. */
    private static void promise18NoSuchReader() {
        for (int bad : NO_READERS) {
            refusedAnywhere("newEntries(" + bad + ")", INDEX, x -> x.newEntries(bad));
        }
    }

    /** learn, review and knows throw IndexOutOfBoundsException if there is no such reader. */
    private static void promise19And20And21NoSuchReader() {
        for (int bad : NO_READERS) {
            for (int entry : new int[] {Integer.MIN_VALUE, -1, 0, 1, 2, 7, 8, bad}) {
                String with = "(" + bad + ", " + entry + ")";
                refusedAnywhere("learn" + with, INDEX, x -> x.learn(bad, entry));
                refusedAnywhere("knows" + with, INDEX, x -> x.knows(bad, entry) ? 1 : 0);
                for (boolean well : WELL) {
                    refusedAnywhere("review" + with, INDEX, x -> x.review(bad, entry, well));
                }
            }
        }
    }

    /** learn, review and knows throw NoSuchElementException if there is no such entry. */
    private static void promise19And20And21NoSuchEntry() {
        for (Scene scene : Scene.values()) {
            for (int reader = 0; reader < 3; reader++) {
                for (int bad : NEVER_ENTRIES) {
                    noSuchEntry(scene, reader, bad);
                }
                for (int entry = 0; entry < 8; entry++) {
                    if (!scene.has(entry)) {
                        noSuchEntry(scene, reader, entry);
                    }
                }
            }
        }
    }

    private static void noSuchEntry(Scene scene, int reader, int entry) {
        String with = "(" + reader + ", " + entry + ")";
        refused(scene, "learn" + with, ELEMENT, x -> x.learn(reader, entry));
        refused(scene, "knows" + with, ELEMENT, x -> x.knows(reader, entry) ? 1 : 0);
        for (boolean well : WELL) {
            refused(scene, "review" + with, ELEMENT, x -> x.review(reader, entry, well));
        }
    }

    /** learn throws IllegalStateException if the reader has a card for the entry. */
    private static void promise19ReaderHasACard() {
        for (Scene scene : Scene.values()) {
            for (int i = 0; i < 24; i++) {
                int reader = i / 8;
                int entry = i % 8;
                String call = "learn(" + reader + ", " + entry + ")";
                if (scene.hasCard(reader, entry)) {
                    refused(scene, call, STATE, x -> x.learn(reader, entry));
                } else if (scene.has(entry)) {
                    seen(scene, call, x -> x.learn(reader, entry));
                }
            }
        }
    }

    /** review throws IllegalStateException if there is no card, or it is due later than today. */
    private static void promise20NoCardOrDueLater() {
        for (Scene scene : Scene.values()) {
            for (int i = 0; i < 48; i++) {
                int reader = i / 8 % 3;
                int entry = i % 8;
                boolean well = WELL[i / 24];
                String call = "review(" + reader + ", " + entry + ", " + well + ")";
                if (scene.hasDue(reader, entry)) {
                    seen(scene, call, x -> x.review(reader, entry, well));
                } else if (scene.has(entry)) {
                    refused(scene, call, STATE, x -> x.review(reader, entry, well));
                }
            }
        }
    }

    /** due throws IndexOutOfBoundsException if there is no such reader. */
    private static void promise22NoSuchReader() {
        for (int bad : NO_READERS) {
            refusedAnywhere("due(" + bad + ")", INDEX, x -> x.due(bad));
        }
    }

    /** nextDue throws IndexOutOfBoundsException if there is no such reader. */
    private static void promise23NoSuchReader() {
        for (int bad : NO_READERS) {
            refusedAnywhere("nextDue(" + bad + ")", INDEX, x -> x.nextDue(bad));
        }
    }

    /** pass throws IllegalArgumentException if days is out of range. */
    private static void promise24DaysIsOutOfRange() {
        for (int bad : new int[] {Integer.MIN_VALUE, -1, 0, 101, 102, Integer.MAX_VALUE}) {
            refusedAnywhere("pass(" + bad + ")", ARGUMENT, x -> x.pass(bad));
        }
    }

    public static void main(String[] args) {
        about("the questions of this test");
        changesAreSeen();
        int[] throwing = {2, 3, 4, 5, 6, 7, 8, 10, 12, 16, 17, 18, 19, 20, 21, 22, 23, 24};
        eachOf(PocketglossRefusals.class, throwing);
        end("of refused calls");
    }
}
