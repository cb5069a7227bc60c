import java.util.Arrays;

/**
 * The sentences of the document's "Terms" over their whole ranges: each rule, word, cost, number of
 * days, reader and entry, and each sentence of few words with each phrase and split entry of these.
 */
public final class PocketglossWholeRanges extends Checks {
    /** How many sentences one object is asked of, to stay below its 512 calls. */
    private static final int SENTENCES_AT_ONCE = 50;

    private interface Making {
        Pocketgloss make();
    }

    private interface Counting {
        int count(int[] words);
    }

    /** Returns the row of words 0 to 2 that has a number among all rows of its length. */
    private static int[] sentence(int length, int number) {
        int[] words = new int[length];
        int rest = number;
        for (int place = 0; place < length; place++) {
            words[place] = rest % 3;
            rest /= 3;
        }
        return words;
    }

    /** Compares standings() in every sentence of words 0 to 2 with a count by the plain words. */
    private static void standsInAll(String what, Making making, Counting counting) {
        Pocketgloss x = making.make();
        int asked = 0;
        int sentences = 1;
        for (int length = 0; length <= 6; length++) {
            for (int number = 0; number < sentences; number++) {
                if (asked == SENTENCES_AT_ONCE) {
                    x = making.make();
                    asked = 0;
                }
                asked++;
                int[] words = sentence(length, number);
                tell(x, words);
                String call = "standings() of " + what + " in " + Arrays.toString(words);
                is(call, x.standings(), counting.count(words));
            }
            sentences *= 3;
        }
    }

    /** Only 2 has another headword, if there is the rule of kind 1 and step 1. */
    private static boolean form(int word, int headword, boolean withRule) {
        return word == headword || withRule && word == 2 && headword == 1;
    }

    private static Pocketgloss begin(boolean withRule) {
        Pocketgloss x = new Pocketgloss();
        if (withRule) {
            x.addRule(1, 1);
        }
        return x;
    }

    /** "Rules .. a rule has a kind, 0 to 2, and a step, 1 to 50"; "the headword and the step". */
    private static void promise02And03And04EveryRule() {
        for (int kind = 0; kind < 3; kind++) {
            for (int step = 1; step <= 50; step++) {
                Pocketgloss x = new Pocketgloss();
                is("addRule(" + kind + ", " + step + ")", x.addRule(kind, step), 0);
                for (int headword = 0; headword < 100 - step; headword++) {
                    String call = "isForm of " + headword + " by " + kind + ", " + step;
                    boolean want = headword % 3 == kind;
                    is(call, x.isForm(headword + step, headword), want);
                }
                for (int word = 0; word < 100; word++) {
                    int want = word >= step && (word - step) % 3 == kind ? 2 : 1;
                    is("headwords(" + word + ") by " + step, x.headwords(word), want);
                }
            }
        }
    }

    /** "Words are 0 to 99; each can be a headword, too." */
    private static void promise05And06And10EveryWordInAPhrase() {
        for (int headword = 0; headword < 100; headword++) {
            Pocketgloss x = new Pocketgloss();
            is("part(" + headword + ")", x.part(headword), 1);
            x.addPhrase(1);
            for (int word = 0; word < 100; word++) {
                x.clear();
                is("say(" + word + ")", x.say(word), 1);
                String call = "standings() of " + headword + " in " + word;
                is(call, x.standings(), word == headword ? 1 : 0);
            }
        }
    }

    /** "A split entry has two headwords": any two. */
    private static void promise07EveryTwoHeadwords() {
        for (int first = 0; first < 100; first++) {
            for (int second = 0; second < 100; second++) {
                Pocketgloss x = new Pocketgloss();
                x.addSplit(first, second, 0, 1);
                tell(x, first, second);
                String call = "standings() of the split entry " + first + ", " + second;
                is(call, x.standings(), 1);
                tell(x, second, first);
                is(call + ", the other way", x.standings(), first == second ? 1 : 0);
            }
        }
    }

    /** "an entry has a cost, 1 to 20"; the cost of a cover "once for each standing". */
    private static void promise06And07And14And15EveryCost() {
        for (int cost = 1; cost <= 20; cost++) {
            Pocketgloss x = new Pocketgloss();
            x.setBare(50);
            phrase(x, cost, 3);
            x.addSplit(4, 5, 0, cost);
            tell(x, 3);
            costs(x, cost);
            tell(x, 4, 5);
            costs(x, cost);
            tell(x, 3, 4, 5, 3);
            costs(x, 3 * cost);
        }
    }

    /** "the bare cost (10 at first) for each place that is not taken" */
    private static void promise12And14And15EveryBareCost() {
        Pocketgloss x = new Pocketgloss();
        phrase(x, 20, 1, 2);
        tell(x, 1, 2, 3);
        int before = 10;
        for (int bare = 1; bare <= 50; bare++) {
            is("setBare(" + bare + ")", x.setBare(bare), before);
            costs(x, bare + Math.min(20, 2 * bare));
            is("glossAt(0) with " + bare, x.glossAt(0), bare < 10 ? NONE : 0);
            before = bare;
        }
    }

    /** "A phrase is a row of 1 to 4 parts, each a headword or open": all of these of 1, 2, open. */
    private static void promise13EveryPhraseInEverySentence() {
        int phrases = 0;
        for (int length = 1; length <= 4; length++) {
            for (int number = 0; number < Math.pow(3, length); number++) {
                int[] parts = sentence(length, number);
                for (int i = 0; i < length; i++) {
                    parts[i] = parts[i] == 0 ? NONE : parts[i];
                }
                if (parts[0] != NONE && parts[length - 1] != NONE) {
                    phrases++;
                    phraseInAll(parts, false);
                    phraseInAll(parts, true);
                }
            }
        }
        is("the number of phrases", phrases, 54);
    }

    private static void phraseInAll(int[] parts, boolean withRule) {
        Making making = () -> {
            Pocketgloss x = begin(withRule);
            phrase(x, 1, parts);
            return x;
        };
        String what = "the phrase " + Arrays.toString(parts);
        standsInAll(what, making, words -> phraseCount(parts, words, withRule));
    }

    private static int phraseCount(int[] parts, int[] words, boolean withRule) {
        int count = 0;
        for (int from = 0; from + parts.length <= words.length; from++) {
            boolean stands = true;
            for (int i = 0; i < parts.length; i++) {
                stands &= parts[i] == NONE || form(words[from + i], parts[i], withRule);
            }
            count += stands ? 1 : 0;
        }
        return count;
    }

    /** "the second place being behind the first one, with at most as many words between them" */
    private static void promise13EverySplitEntryInEverySentence() {
        for (int reach = 0; reach <= 4; reach++) {
            for (int first = 1; first <= 2; first++) {
                for (int second = 1; second <= 2; second++) {
                    splitInAll(first, second, reach, false);
                    splitInAll(first, second, reach, true);
                }
            }
        }
    }

    private static void splitInAll(int first, int second, int reach, boolean withRule) {
        Making making = () -> {
            Pocketgloss x = begin(withRule);
            x.addSplit(first, second, reach, 1);
            return x;
        };
        String what = "the split entry " + first + ", " + second + " of reach " + reach;
        standsInAll(what, making, words -> splitCount(first, second, reach, words, withRule));
    }

    private static int splitCount(
            int first, int second, int reach, int[] words, boolean withRule) {
        int count = 0;
        for (int one = 0; one < words.length; one++) {
            for (int other = one + 1; other < words.length; other++) {
                boolean near = other - one - 1 <= reach;
                if (near && form(words[one], first, withRule)
                        && form(words[other], second, withRule)) {
                    count++;
                }
            }
        }
        return count;
    }

    /** "of the same entry, the one whose places are the least": a first 1, and two 2 behind it. */
    private static void promise16And17EveryTwoPlacesOfTheSameEntry() {
        for (int first = 0; first < 4; first++) {
            for (int near = first + 1; near < 5; near++) {
                for (int far = near + 1; far < 6; far++) {
                    Pocketgloss x = new Pocketgloss();
                    x.addSplit(1, 2, 4, 1);
                    int[] words = new int[6];
                    words[first] = 1;
                    words[near] = 2;
                    words[far] = 2;
                    tell(x, words);
                    int want = (1 << first) + (1 << near);
                    is("placesAt(" + first + ")", x.placesAt(first), want);
                    is("placesAt(" + near + ")", x.placesAt(near), want);
                    is("placesAt(" + far + ")", x.placesAt(far), 0);
                    is("glossAt(" + far + ")", x.glossAt(far), NONE);
                    costs(x, 41);
                }
            }
        }
    }

    /** "A reader has a card for an entry, or none": each reader's and entry's is another one. */
    private static void promise18To23EveryReaderAndEntry() {
        for (int reader = 0; reader < 3; reader++) {
            for (int entry = 0; entry < 8; entry++) {
                Pocketgloss x = new Pocketgloss();
                for (int number = 0; number < 8; number++) {
                    phrase(x, 1, number);
                }
                x.say(entry);
                is("learn(" + reader + ", " + entry + ")", x.learn(reader, entry), 1);
                x.pass(1);
                x.review(reader, entry, true);
                x.pass(2);
                x.review(reader, entry, true);
                x.pass(4);
                onlyHas(x, reader, entry, false);
                is("review", x.review(reader, entry, true), 8);
                x.pass(8);
                onlyHas(x, reader, entry, true);
                is("takeOut(" + entry + ")", x.takeOut(entry), 1);
                onlyHas(x, NONE, entry, false);
            }
        }
    }

    private static void onlyHas(Pocketgloss x, int reader, int entry, boolean known) {
        for (int r = 0; r < 3; r++) {
            String who = "(" + r + ") with a card of " + reader + " for " + entry;
            is("due" + who, x.due(r), r == reader ? 1 : 0);
            is("nextDue" + who, x.nextDue(r), r == reader ? entry : NONE);
            is("newEntries" + who, x.newEntries(r), r == reader || reader == NONE ? 0 : 1);
            for (int e = 0; e < 8; e++) {
                int other = e;
                boolean own = r == reader && e == entry;
                if (reader != NONE || e != entry) {
                    is("knows(" + e + ")" + who, x.knows(r, e), own && known);
                }
                if (!own && (reader != NONE || e != entry)) {
                    int another = r;
                    fails("review(" + e + ")" + who, STATE, () -> x.review(another, other, true));
                }
            }
        }
    }

    /** "due today or were due before", "due later than today": each day after each interval. */
    private static void promise20And22EveryDayBehindAReview() {
        for (int interval = 1; interval <= 64; interval *= 2) {
            Pocketgloss x = new Pocketgloss();
            phrase(x, 1, 1);
            x.learn(2, 0);
            for (int before = 1; before < interval; before *= 2) {
                x.pass(before);
                x.review(2, 0, true);
            }
            for (int later = 0; later < interval; later++) {
                String when = " " + later + " days behind a review to " + interval;
                is("due(2)" + when, x.due(2), 0);
                fails("review" + when, STATE, () -> x.review(2, 0, true));
                fails("a failing" + when, STATE, () -> x.review(2, 0, false));
                is("nextDue(2)" + when, x.nextDue(2), 0);
                x.pass(1);
            }
            for (int late = 0; late < 20; late++) {
                is("due(2) when it is " + late + " days late", x.due(2), 1);
                x.pass(1);
            }
            is("review in the end", x.review(2, 0, true), Math.min(64, 2 * interval));
        }
    }

    /** "The day is 0 at first", and "1 to 100" pass. */
    private static void promise24EveryNumberOfDays() {
        Pocketgloss x = new Pocketgloss();
        int day = 0;
        for (int days = 1; days <= 100; days++) {
            day += days;
            is("pass(" + days + ")", x.pass(days), day);
        }
    }

    public static void main(String[] args) {
        eachOf(PocketglossWholeRanges.class, 2, 3, 4, 5, 6, 7, 10, 12, 13, 14, 15, 16, 17, 18, 20,
                22, 23, 24);
        end("of whole ranges");
    }
}
