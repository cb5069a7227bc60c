import java.util.Arrays;

/** Promises 13 to 18: each boundary that the document names, just inside it and just outside. */
public final class PocketglossEdgesOfCovers extends Checks {
    private static final int[] ALL_SAME = {1, 1, 1, 1, 1, 1};

    private static void stands(Pocketgloss x, int want, int... words) {
        tell(x, words);
        is("standings() in " + Arrays.toString(words), x.standings(), want);
    }

    /** Makes a phrase, told by its parts, the only entry. */
    private static Pocketgloss withPhrase(int cost, int... parts) {
        Pocketgloss x = new Pocketgloss();
        phrase(x, cost, parts);
        return x;
    }

    private static Pocketgloss withSplit(int first, int second, int reach, int cost) {
        Pocketgloss x = new Pocketgloss();
        x.addSplit(first, second, reach, cost);
        return x;
    }

    // ---- promise 13: standings

    private static void promise13NoneInAnEmptySentence() {
        Pocketgloss x = withPhrase(1, 1);
        x.addSplit(1, 1, 4, 1);
        is("standings()", x.standings(), 0);
        x.say(1);
        is("standings() in one word", x.standings(), 1);
        x.clear();
        is("standings() when it is empty again", x.standings(), 0);
    }

    private static void promise13NoneWithoutEntries() {
        Pocketgloss x = new Pocketgloss();
        stands(x, 0, ALL_SAME);
        phrase(x, 1, 1);
        is("standings()", x.standings(), 6);
        x.takeOut(0);
        is("standings() when it is out", x.standings(), 0);
    }

    private static void promise13APhraseThatJustFits() {
        for (int parts = 1; parts <= 4; parts++) {
            Pocketgloss x = new Pocketgloss();
            for (int i = 0; i < parts; i++) {
                x.part(1);
            }
            x.addPhrase(1);
            for (int words = 1; words <= 6; words++) {
                x.say(1);
                String call = "standings() of " + parts + " parts in " + words + " words";
                is(call, x.standings(), Math.max(0, words - parts + 1));
            }
        }
    }

    private static void promise13APhraseAtTheFirstAndTheLastPlaces() {
        Pocketgloss x = withPhrase(1, 1, 2, 3, 4);
        stands(x, 1, 1, 2, 3, 4, 9, 9);
        places(x, 15, 15, 15, 15, 0, 0);
        stands(x, 1, 9, 9, 1, 2, 3, 4);
        places(x, 0, 0, 60, 60, 60, 60);
        stands(x, 0, 9, 9, 9, 1, 2, 3);
        stands(x, 0, 2, 3, 4, 9, 9, 1);
        stands(x, 0, 4, 9, 9, 1, 2, 3);
    }

    private static void promise13EachWordMustBeAForm() {
        Pocketgloss x = withPhrase(1, 1, 2, 3, 4);
        stands(x, 1, 1, 2, 3, 4);
        stands(x, 0, 0, 2, 3, 4);
        stands(x, 0, 1, 3, 3, 4);
        stands(x, 0, 1, 2, 2, 4);
        stands(x, 0, 1, 2, 3, 5);
    }

    private static void promise13AnOpenPartIsOneWordWhatever() {
        Pocketgloss x = withPhrase(1, 3, NONE, 5);
        for (int word = 0; word < 100; word++) {
            x.clear();
            x.say(3);
            x.say(word);
            x.say(5);
            is("standings() with " + word + " in the open place", x.standings(), 1);
        }
        stands(x, 0, 3, 5);
        stands(x, 0, 3, 0, 0, 5);
        stands(x, 0, 3, 0);
        Pocketgloss y = withPhrase(1, 3, NONE, NONE, 5);
        stands(y, 0, 3, 0, 5);
        stands(y, 1, 3, 0, 0, 5);
        stands(y, 0, 3, 0, 0, 0, 5);
    }

    private static void promise13AtMostAsManyWordsBetweenAsTheReach() {
        for (int reach = 0; reach <= 4; reach++) {
            Pocketgloss x = withSplit(1, 2, reach, 1);
            for (int between = 0; between <= 4; between++) {
                x.clear();
                x.say(1);
                for (int i = 0; i < between; i++) {
                    x.say(0);
                }
                x.say(2);
                String call = "standings() of reach " + reach + " with " + between + " between";
                is(call, x.standings(), between <= reach ? 1 : 0);
            }
        }
    }

    private static void promise13EveryPairWithinTheReach() {
        int[] pairs = {5, 9, 12, 14, 15};
        for (int reach = 0; reach <= 4; reach++) {
            stands(withSplit(1, 1, reach, 1), pairs[reach], ALL_SAME);
        }
    }

    private static void promise13TheSecondIsBehindTheFirst() {
        Pocketgloss x = withSplit(1, 2, 4, 1);
        stands(x, 1, 1, 2);
        stands(x, 0, 2, 1);
        stands(x, 0, 1);
        stands(x, 1, 1, 9, 9, 9, 9, 2);
        stands(x, 0, 2, 9, 9, 9, 9, 1);
        stands(x, 1, 2, 1, 2);
        stands(x, 3, 1, 2, 1, 2);
    }

    private static void promise13FormsStandForTheirHeadwords() {
        Pocketgloss x = withPhrase(1, 3, 4);
        x.addSplit(3, 4, 0, 1);
        stands(x, 2, 3, 4);
        stands(x, 0, 4, 4);
        stands(x, 0, 3, 6);
        x.addRule(0, 1);
        stands(x, 2, 4, 4);
        stands(x, 0, 5, 4);
        stands(x, 0, 3, 5);
        x.addRule(1, 2);
        stands(x, 2, 3, 6);
        stands(x, 2, 4, 6);
        stands(x, 0, 4, 7);
        stands(x, 0, 5, 6);
    }

    private static void promise13EqualEntriesStandEach() {
        Pocketgloss x = withPhrase(1, 1, 1);
        phrase(x, 1, 1, 1);
        x.addSplit(1, 1, 0, 1);
        stands(x, 3, 1, 1);
        x.takeOut(1);
        is("standings()", x.standings(), 2);
    }

    private static void promise13UpTo120() {
        Pocketgloss x = new Pocketgloss();
        for (int number = 0; number < 8; number++) {
            x.addSplit(1, 1, 4, 20);
        }
        stands(x, 120, ALL_SAME);
        costs(x, 60);
        glosses(x, 0, 0, 0, 0, 0, 0);
        x.takeOut(7);
        is("standings() without one", x.standings(), 105);
    }

    // ---- promises 14 and 15: cost, costByAll

    private static void promise14And15EachBarePlaceOnce() {
        Pocketgloss x = new Pocketgloss();
        costs(x, 0);
        for (int size = 1; size <= 6; size++) {
            x.say(1);
            costs(x, 10 * size);
        }
        x.setBare(1);
        costs(x, 6);
        x.setBare(50);
        costs(x, 300);
        x.clear();
        costs(x, 0);
    }

    private static void promise14And15AnEntryAboutTheBareCost() {
        int[] wants = {9, 10, 10};
        for (int i = 0; i < 3; i++) {
            Pocketgloss x = withPhrase(9 + i, 1);
            tell(x, 1);
            costs(x, wants[i]);
            Pocketgloss y = withSplit(1, 2, 4, 9 + i);
            y.setBare(5);
            tell(y, 1, 2);
            costs(y, wants[i]);
            tell(y, 1, 9, 9, 9, 9, 2);
            costs(y, wants[i] + 20);
        }
    }

    private static void promise14And15OnceForEachStanding() {
        Pocketgloss x = withPhrase(3, 1);
        for (int size = 1; size <= 6; size++) {
            x.say(1);
            costs(x, 3 * size);
        }
    }

    private static void promise14And15NoPlaceIsTakenTwice() {
        Pocketgloss x = withPhrase(1, 1, 2);
        phrase(x, 1, 2, 3);
        tell(x, 1, 2, 3);
        costs(x, 11);
        tell(x, 1, 2, 2, 3);
        costs(x, 2);
        Pocketgloss y = withSplit(1, 2, 4, 1);
        tell(y, 1, 1, 2);
        costs(y, 11);
        tell(y, 1, 1, 2, 2);
        costs(y, 2);
        tell(y, 1, 2, 2);
        costs(y, 11);
    }

    private static void promise14And15OpenPlacesCanBeTakenByOthers() {
        Pocketgloss x = withPhrase(1, 1, NONE, 3);
        tell(x, 1, 2, 3);
        costs(x, 11);
        phrase(x, 4, 2);
        costs(x, 5);
        Pocketgloss y = withPhrase(1, 1, NONE, 1);
        tell(y, 1, 1, 1, 1);
        costs(y, 2);
        tell(y, 1, 1, 1);
        costs(y, 11);
        Pocketgloss z = withPhrase(1, 1, NONE, NONE, 1);
        tell(z, ALL_SAME);
        costs(z, 3);
    }

    private static void promise14And15WordsBetweenCanBeTakenByOthers() {
        Pocketgloss x = withSplit(1, 2, 4, 1);
        tell(x, 1, 1, 1, 2, 2, 2);
        costs(x, 3);
        tell(x, 1, 3, 4, 3, 4, 2);
        costs(x, 41);
        phrase(x, 1, 3, 4);
        costs(x, 3);
    }

    private static void promise14And15FromTheFirstToTheLastPlace() {
        Pocketgloss x = withPhrase(1, 7);
        for (int place = 0; place < 6; place++) {
            int[] words = new int[6];
            words[place] = 7;
            tell(x, words);
            costs(x, 51);
        }
    }

    private static void promise14And15TheLeastOfAllAndTheMost() {
        Pocketgloss x = withPhrase(1, 1, 1, 1, 1);
        phrase(x, 1, 1, 1);
        tell(x, ALL_SAME);
        costs(x, 2);
        Pocketgloss y = withPhrase(20, 1);
        y.setBare(50);
        tell(y, ALL_SAME);
        costs(y, 120);
        tell(y, 2, 2, 2, 2, 2, 2);
        costs(y, 300);
    }

    private static void promise14And15TheCheapestAtOnePlaceIsNotAlwaysBest() {
        Pocketgloss x = withPhrase(1, 1, 2);
        phrase(x, 9, 1);
        phrase(x, 1, 2, 3, 4, 5);
        tell(x, 1, 2, 3, 4);
        costs(x, 21);
        tell(x, 1, 2, 3, 4, 5);
        costs(x, 10);
        Pocketgloss y = withPhrase(1, 2);
        phrase(y, 11, 1, 2);
        tell(y, 1, 2);
        costs(y, 11);
        y.setBare(9);
        costs(y, 10);
    }

    // ---- promise 16: glossAt

    private static void promise16PlacesFrom0ToTheLast() {
        Pocketgloss x = withPhrase(1, 1);
        fails("glossAt(0) of an empty sentence", INDEX, () -> x.glossAt(0));
        for (int i = 1; i <= 6; i++) {
            int size = x.say(1);
            is("glossAt(size - 1)", x.glossAt(size - 1), 0);
            fails("glossAt(" + size + ")", INDEX, () -> x.glossAt(size));
            fails("glossAt(-1)", INDEX, () -> x.glossAt(-1));
        }
        x.clear();
        fails("glossAt(0) when it is empty again", INDEX, () -> x.glossAt(0));
    }

    private static void promise16FromEntry0To7() {
        Pocketgloss x = new Pocketgloss();
        for (int number = 0; number < 8; number++) {
            phrase(x, 1, number);
        }
        tell(x, 0, 1, 6, 7, 8);
        glosses(x, 0, 1, 6, 7, NONE);
    }

    private static void promise16NoneWhereNoneIsTaken() {
        Pocketgloss x = new Pocketgloss();
        tell(x, ALL_SAME);
        glosses(x, NONE, NONE, NONE, NONE, NONE, NONE);
        phrase(x, 1, 1, NONE, NONE, 4);
        tell(x, 9, 1, 1, 4, 4, 9);
        glosses(x, NONE, 0, NONE, NONE, 0, NONE);
        Pocketgloss y = withSplit(1, 2, 4, 1);
        tell(y, 1, 9, 9, 9, 9, 2);
        glosses(y, 0, NONE, NONE, NONE, NONE, 0);
    }

    private static void promise16NotTakenIsTheWorstOfEquals() {
        int[] wants = {0, 0, NONE};
        for (int i = 0; i < 3; i++) {
            Pocketgloss x = withPhrase(9 + i, 1);
            tell(x, 1, 2, 1);
            glosses(x, wants[i], NONE, wants[i]);
            Pocketgloss y = withSplit(1, 2, 4, 9 + i);
            y.setBare(5);
            tell(y, 1, 9, 9, 9, 9, 2);
            glosses(y, wants[i], NONE, NONE, NONE, NONE, wants[i]);
        }
    }

    private static void promise16TheLowerNumberOfEquals() {
        Pocketgloss x = new Pocketgloss();
        for (int number = 0; number < 8; number++) {
            x.addSplit(1, 2, 0, number == 3 ? 4 : 5);
        }
        tell(x, 1, 2);
        glosses(x, 3, 3);
        x.takeOut(3);
        glosses(x, 0, 0);
        x.takeOut(0);
        glosses(x, 1, 1);
        for (int number : new int[] {6, 1, 4, 2, 5}) {
            x.takeOut(number);
        }
        glosses(x, 7, 7);
    }

    /** 0 is the second word, 1 both words, 2 the first one; 0 and 2 cost together as much as 1. */
    private static void promise16TheFirstPlaceDecides() {
        Pocketgloss x = withPhrase(4, 2);
        phrase(x, 9, 1, 2);
        phrase(x, 5, 1);
        tell(x, 1, 2);
        costs(x, 9);
        glosses(x, 1, 1);
        Pocketgloss y = withPhrase(4, 2);
        phrase(y, 5, 1);
        phrase(y, 9, 1, 2);
        tell(y, 1, 2);
        glosses(y, 1, 0);
        Pocketgloss z = withPhrase(10, 2);
        phrase(z, 20, 1, 2);
        tell(z, 1, 2);
        costs(z, 20);
        glosses(z, 1, 1);
    }

    private static void promise16TheFirstPlaceWhereTheyDiffer() {
        Pocketgloss x = withPhrase(3, 5);
        phrase(x, 6, 6, 7);
        phrase(x, 3, 6);
        phrase(x, 3, 7);
        tell(x, 5, 6, 7);
        glosses(x, 0, 1, 1);
        tell(x, 9, 5, 5, 6, 7, 7);
        glosses(x, NONE, 0, 0, 1, 1, 3);
        Pocketgloss y = withPhrase(3, 5);
        phrase(y, 3, 6);
        phrase(y, 6, 6, 7);
        phrase(y, 3, 7);
        tell(y, 5, 6, 7);
        glosses(y, 0, 1, 3);
    }

    private static void promise16TheNumberGoesBeforeThePlaces() {
        Pocketgloss x = withPhrase(4, 1, NONE, 1);
        phrase(x, 4, 1, 1);
        tell(x, 1, 1, 1, 1);
        costs(x, 8);
        glosses(x, 0, 0, 0, 0);
        places(x, 5, 10, 5, 10);
        Pocketgloss y = withPhrase(4, 1, 1);
        phrase(y, 4, 1, NONE, 1);
        tell(y, 1, 1, 1, 1);
        glosses(y, 0, 0, 0, 0);
        places(y, 3, 3, 12, 12);
    }

    // ---- promise 17: placesAt

    private static void promise17PlacesFrom0ToTheLast() {
        Pocketgloss x = withPhrase(1, 1);
        fails("placesAt(0) of an empty sentence", INDEX, () -> x.placesAt(0));
        for (int i = 1; i <= 6; i++) {
            int size = x.say(1);
            is("placesAt(size - 1)", x.placesAt(size - 1), 1 << (size - 1));
            fails("placesAt(" + size + ")", INDEX, () -> x.placesAt(size));
            fails("placesAt(-1)", INDEX, () -> x.placesAt(-1));
        }
        x.clear();
        fails("placesAt(0) when it is empty again", INDEX, () -> x.placesAt(0));
    }

    private static void promise17SumsOf2ToThePowerOfPlaces() {
        Pocketgloss x = withPhrase(1, 1);
        tell(x, ALL_SAME);
        places(x, 1, 2, 4, 8, 16, 32);
        Pocketgloss y = withSplit(1, 2, 4, 1);
        tell(y, 1, 9, 9, 9, 9, 2);
        places(y, 33, 0, 0, 0, 0, 33);
        Pocketgloss z = withPhrase(1, 1, 2, 3, 4);
        tell(z, 9, 9, 1, 2, 3, 4);
        places(z, 0, 0, 60, 60, 60, 60);
    }

    private static void promise17OpenPlacesAreNotTaken() {
        Pocketgloss x = withPhrase(1, 1, NONE, NONE, 4);
        tell(x, 9, 1, 1, 4, 4, 9);
        places(x, 0, 18, 0, 0, 18, 0);
        Pocketgloss y = withPhrase(1, 1, NONE, 3, 4);
        tell(y, 1, 2, 3, 4);
        places(y, 13, 0, 13, 13);
        Pocketgloss z = withPhrase(1, 1, 2, NONE, 4);
        tell(z, 1, 2, 3, 4);
        places(z, 11, 11, 0, 11);
    }

    private static void promise17ZeroWhereNoneIsTaken() {
        Pocketgloss x = withPhrase(11, 1);
        tell(x, 1, 2);
        places(x, 0, 0);
        x.setBare(11);
        places(x, 1, 0);
    }

    private static void promise17TheLeastPlacesOfTheSameEntry() {
        Pocketgloss x = withSplit(1, 1, 4, 10);
        tell(x, 1, 1, 1);
        places(x, 3, 3, 0);
        tell(x, 1, 9, 1, 1);
        places(x, 5, 0, 5, 0);
        tell(x, 1, 9, 9, 1, 1);
        places(x, 9, 0, 0, 9, 0);
        tell(x, 1, 1, 1, 1);
        places(x, 3, 3, 12, 12);
        tell(x, ALL_SAME);
        places(x, 3, 3, 12, 12, 48, 48);
    }

    /** The first word is left bare only if that is cheaper; the first place is then not taken. */
    private static void promise17TheFirstPlaceThatCanBeTaken() {
        Pocketgloss x = withSplit(1, 2, 4, 10);
        tell(x, 1, 1, 2);
        places(x, 5, 0, 5);
        tell(x, 1, 1, 2, 2);
        places(x, 5, 10, 5, 10);
        phrase(x, 9, 1, 2);
        tell(x, 1, 1, 2);
        places(x, 0, 6, 6);
        glosses(x, NONE, 1, 1);
    }

    // ---- promise 18: newEntries

    private static void promise18ReaderIs0To2() {
        Pocketgloss x = withPhrase(1, 1);
        tell(x, 1);
        for (int reader = 0; reader <= 2; reader++) {
            is("newEntries(" + reader + ")", x.newEntries(reader), 1);
        }
        fails("newEntries(-1)", INDEX, () -> x.newEntries(-1));
        fails("newEntries(3)", INDEX, () -> x.newEntries(3));
    }

    private static void promise18EachCountsOnce() {
        Pocketgloss x = withPhrase(1, 1);
        phrase(x, 1, 2, NONE, 2);
        tell(x, ALL_SAME);
        is("newEntries(0)", x.newEntries(0), 1);
        tell(x, 2, 2, 2, 2, 1, 1);
        is("newEntries(0)", x.newEntries(0), 2);
        x.learn(0, 1);
        is("newEntries(0)", x.newEntries(0), 1);
        x.learn(0, 0);
        is("newEntries(0)", x.newEntries(0), 0);
    }

    private static void promise18From0To6() {
        Pocketgloss x = new Pocketgloss();
        for (int number = 0; number < 8; number++) {
            phrase(x, 1, number);
        }
        is("newEntries(2) of an empty sentence", x.newEntries(2), 0);
        for (int size = 1; size <= 6; size++) {
            x.say(8 - size);
            is("newEntries(2)", x.newEntries(2), size);
        }
        for (int known = 1; known <= 6; known++) {
            x.learn(2, 8 - known);
            is("newEntries(2)", x.newEntries(2), 6 - known);
        }
        is("newEntries(1)", x.newEntries(1), 6);
    }

    private static void promise18OnlyEntriesOfTheBestCover() {
        Pocketgloss x = withPhrase(11, 1);
        phrase(x, 12, 1);
        tell(x, 1);
        is("newEntries(0), both too dear", x.newEntries(0), 0);
        x.setBare(11);
        is("newEntries(0), one as dear as bare", x.newEntries(0), 1);
        x.learn(0, 0);
        is("newEntries(0)", x.newEntries(0), 0);
        x.takeOut(0);
        is("newEntries(0), the other too dear", x.newEntries(0), 0);
        x.setBare(12);
        is("newEntries(0), the other as dear as bare", x.newEntries(0), 1);
    }

    private static void promise18OfEqualCoversTheBest() {
        Pocketgloss x = withPhrase(5, 1);
        phrase(x, 5, 1);
        tell(x, 1);
        x.learn(0, 0);
        x.learn(1, 1);
        is("newEntries(0), who has a card for the lower", x.newEntries(0), 0);
        is("newEntries(1), who has one for the higher", x.newEntries(1), 1);
    }

    private static void promise18ACardIsEnough() {
        Pocketgloss x = withPhrase(1, 1);
        tell(x, 1);
        x.learn(0, 0);
        is("newEntries(0) on the day of learning", x.newEntries(0), 0);
        x.pass(100);
        is("newEntries(0) when the card is due", x.newEntries(0), 0);
        x.review(0, 0, false);
        is("newEntries(0) after a failing", x.newEntries(0), 0);
    }

    public static void main(String[] args) {
        eachOf(PocketglossEdgesOfCovers.class, 13, 14, 15, 16, 17, 18);
        end("of the edges of covers");
    }
}
