/** Promises 1 to 12: each boundary that the document names, just inside it and just outside. */
public final class PocketglossEdgesOfEntries extends Checks {
    /** Makes an object with rules, told as kind and step, kind and step, and so on. */
    private static Pocketgloss withRules(int... rules) {
        Pocketgloss x = new Pocketgloss();
        for (int i = 0; i + 1 < rules.length; i += 2) {
            x.addRule(rules[i], rules[i + 1]);
        }
        return x;
    }

    private static Pocketgloss withEightEntries() {
        Pocketgloss x = new Pocketgloss();
        for (int number = 0; number < 8; number++) {
            is("addSplit(1, 2, 0, 1)", x.addSplit(1, 2, 0, 1), number);
        }
        return x;
    }

    // ---- promise 1: a new object

    private static void promise01BeginsWithoutRules() {
        Pocketgloss x = new Pocketgloss();
        for (int word = 0; word < 100; word++) {
            is("headwords(" + word + ")", x.headwords(word), 1);
            is("isForm(" + word + ", 0)", x.isForm(word, 0), word == 0);
        }
        is("addRule(0, 1)", x.addRule(0, 1), 0);
    }

    private static void promise01BeginsWithoutEntries() {
        Pocketgloss x = new Pocketgloss();
        is("entries()", x.entries(), 0);
        for (int i = 0; i < 8; i++) {
            int entry = i;
            fails("takeOut(" + entry + ")", ELEMENT, () -> x.takeOut(entry));
        }
        is("addSplit(1, 2, 0, 1)", x.addSplit(1, 2, 0, 1), 0);
    }

    private static void promise01BeginsWithAnEmptySentence() {
        Pocketgloss x = new Pocketgloss();
        is("standings()", x.standings(), 0);
        costs(x, 0);
        fails("glossAt(0)", INDEX, () -> x.glossAt(0));
        fails("placesAt(0)", INDEX, () -> x.placesAt(0));
        is("newEntries(0)", x.newEntries(0), 0);
        is("say(0)", x.say(0), 1);
        is("clear() of a new object", new Pocketgloss().clear(), 0);
    }

    private static void promise01BeginsWithAnEmptyDraft() {
        Pocketgloss x = new Pocketgloss();
        fails("part(NONE)", STATE, () -> x.part(NONE));
        fails("addPhrase(1)", STATE, () -> x.addPhrase(1));
        is("part(0)", x.part(0), 1);
    }

    private static void promise01BeginsWithTheBareCost10() {
        Pocketgloss x = new Pocketgloss();
        x.say(0);
        costs(x, 10);
        is("setBare(1)", x.setBare(1), 10);
    }

    private static void promise01BeginsOnDay0() {
        is("pass(1)", new Pocketgloss().pass(1), 1);
        is("pass(100)", new Pocketgloss().pass(100), 100);
    }

    private static void promise01BeginsWithoutCards() {
        Pocketgloss x = withEightEntries();
        x.pass(100);
        for (int reader = 0; reader < 3; reader++) {
            is("due(" + reader + ")", x.due(reader), 0);
            is("nextDue(" + reader + ")", x.nextDue(reader), NONE);
            is("knows(" + reader + ", 0)", x.knows(reader, 0), false);
            is("learn(" + reader + ", 7)", x.learn(reader, 7), 1);
        }
    }

    private static void promise01ObjectsShareNothing() {
        Pocketgloss first = new Pocketgloss();
        String begun = look(first);
        Pocketgloss other = withEightEntries();
        other.addRule(0, 1);
        tell(other, 1, 2, 1, 2, 1, 2);
        other.setBare(50);
        other.learn(0, 0);
        other.pass(100);
        is("all of an older object", look(first), begun);
        is("all of a newer object", look(new Pocketgloss()), begun);
    }

    // ---- promise 2: addRule

    private static void promise02KindIs0To2() {
        for (int kind = 0; kind <= 2; kind++) {
            Pocketgloss x = new Pocketgloss();
            is("addRule(" + kind + ", 7)", x.addRule(kind, 7), 0);
            is("isForm(kind + 7, kind)", x.isForm(kind + 7, kind), true);
        }
        Pocketgloss x = new Pocketgloss();
        fails("addRule(-1, 7)", ARGUMENT, () -> x.addRule(-1, 7));
        fails("addRule(3, 7)", ARGUMENT, () -> x.addRule(3, 7));
        is("addRule(0, 7) behind those", x.addRule(0, 7), 0);
    }

    private static void promise02StepIs1To50() {
        for (int step : new int[] {1, 2, 49, 50}) {
            Pocketgloss x = new Pocketgloss();
            is("addRule(0, " + step + ")", x.addRule(0, step), 0);
            is("isForm(step, 0)", x.isForm(step, 0), true);
            is("isForm(step + 1, 0)", x.isForm(step + 1, 0), false);
        }
        Pocketgloss x = new Pocketgloss();
        fails("addRule(0, 0)", ARGUMENT, () -> x.addRule(0, 0));
        fails("addRule(0, 51)", ARGUMENT, () -> x.addRule(0, 51));
        fails("addRule(0, -1)", ARGUMENT, () -> x.addRule(0, -1));
        is("isForm(51, 0)", x.isForm(51, 0), false);
        is("addRule(0, 1) behind those", x.addRule(0, 1), 0);
    }

    private static void promise02SixRulesAtMost() {
        Pocketgloss x = new Pocketgloss();
        for (int number = 0; number < 6; number++) {
            is("addRule(0, " + (number + 1) + ")", x.addRule(0, number + 1), number);
            is("headwords(number + 1)", x.headwords(number + 1), number < 3 ? 2 : 3);
        }
        fails("a seventh rule", STATE, () -> x.addRule(0, 7));
        is("isForm(7, 0)", x.isForm(7, 0), false);
        for (int word = 1; word <= 6; word++) {
            is("isForm(" + word + ", 0)", x.isForm(word, 0), true);
        }
    }

    private static void promise02TheSameRuleTakesANumberAgain() {
        Pocketgloss x = new Pocketgloss();
        for (int number = 0; number < 6; number++) {
            is("addRule(1, 1)", x.addRule(1, 1), number);
        }
        fails("a seventh rule", STATE, () -> x.addRule(1, 1));
    }

    // ---- promise 3: headwords

    private static void promise03WordIs0To99() {
        Pocketgloss x = new Pocketgloss();
        is("headwords(0)", x.headwords(0), 1);
        is("headwords(99)", x.headwords(99), 1);
        fails("headwords(-1)", INDEX, () -> x.headwords(-1));
        fails("headwords(100)", INDEX, () -> x.headwords(100));
    }

    private static void promise03HeadwordsBeginAt0() {
        Pocketgloss x = withRules(0, 3, 2, 1, 1, 2);
        is("headwords(3), of 3, 0, 1 and 2", x.headwords(3), 4);
        is("headwords(2), of 2 and not of -1", x.headwords(2), 1);
        is("headwords(1), of 1 and not of -1", x.headwords(1), 1);
        is("headwords(0), of 0 and not of -3, -1 or -2", x.headwords(0), 1);
    }

    private static void promise03HeadwordsEndAt99() {
        Pocketgloss x = withRules(0, 1, 2, 50, 1, 1, 0, 50);
        is("headwords(0), not of 99", x.headwords(0), 1);
        is("headwords(49), not of 99", x.headwords(49), 2);
        is("headwords(48), not of 98", x.headwords(48), 1);
        is("headwords(99), of 99", x.headwords(99), 1);
        is("headwords(98), of 98, 97 and 48", x.headwords(98), 3);
    }

    private static void promise03FromOneToSevenHeadwords() {
        Pocketgloss x = withRules(2, 1, 1, 2, 0, 3, 2, 4, 1, 5, 1, 50);
        is("headwords(99), by every rule", x.headwords(99), 7);
        is("headwords(98), by no rule", x.headwords(98), 1);
    }

    private static void promise03AHeadwordCountsOnce() {
        Pocketgloss x = withRules(0, 1, 0, 1, 0, 1, 0, 1, 0, 1, 0, 1);
        is("headwords(1), by six rules of one headword", x.headwords(1), 2);
        is("headwords(2)", x.headwords(2), 1);
    }

    // ---- promise 4: isForm

    private static void promise04WordAndHeadwordAre0To99() {
        Pocketgloss x = new Pocketgloss();
        is("isForm(0, 0)", x.isForm(0, 0), true);
        is("isForm(99, 99)", x.isForm(99, 99), true);
        is("isForm(0, 99)", x.isForm(0, 99), false);
        is("isForm(99, 0)", x.isForm(99, 0), false);
        fails("isForm(-1, 0)", INDEX, () -> x.isForm(-1, 0) ? 1 : 0);
        fails("isForm(100, 99)", INDEX, () -> x.isForm(100, 99) ? 1 : 0);
        fails("isForm(0, -1)", INDEX, () -> x.isForm(0, -1) ? 1 : 0);
        fails("isForm(99, 100)", INDEX, () -> x.isForm(99, 100) ? 1 : 0);
        fails("isForm(100, 100)", INDEX, () -> x.isForm(100, 100) ? 1 : 0);
        fails("isForm(-1, -1)", INDEX, () -> x.isForm(-1, -1) ? 1 : 0);
    }

    /** The same, or the headword and the step of a rule of its kind: every word and headword. */
    private static void promise04EveryWordAndHeadword() {
        int[] steps = {1, 2, 50};
        for (int headword = 0; headword < 100; headword++) {
            Pocketgloss x = withRules(0, 1, 1, 2, 2, 50);
            int form = headword + steps[headword % 3];
            for (int word = 0; word < 100; word++) {
                String call = "isForm(" + word + ", " + headword + ")";
                is(call, x.isForm(word, headword), word == headword || word == form);
            }
        }
    }

    private static void promise04KindIsTheRestOfTheHeadwordBy3() {
        for (int kind = 0; kind < 3; kind++) {
            Pocketgloss x = withRules(kind, 1);
            for (int headword : new int[] {0, 1, 2, 3, 4, 5, 96, 97, 98}) {
                String call = "isForm of " + headword + " by kind " + kind;
                is(call, x.isForm(headword + 1, headword), headword % 3 == kind);
            }
        }
    }

    private static void promise04StepIsExact() {
        Pocketgloss x = withRules(0, 10, 1, 50);
        is("isForm(9, 0)", x.isForm(9, 0), false);
        is("isForm(10, 0)", x.isForm(10, 0), true);
        is("isForm(11, 0)", x.isForm(11, 0), false);
        is("isForm(98, 49)", x.isForm(98, 49), false);
        is("isForm(99, 49)", x.isForm(99, 49), true);
    }

    private static void promise04NotBackwardsNorRoundTheEnd() {
        Pocketgloss x = withRules(0, 1, 1, 1, 2, 1);
        is("isForm(7, 6)", x.isForm(7, 6), true);
        is("isForm(6, 7)", x.isForm(6, 7), false);
        is("isForm(0, 99)", x.isForm(0, 99), false);
        is("isForm(0, 1)", x.isForm(0, 1), false);
    }

    private static void promise04OneRuleAndOnce() {
        Pocketgloss x = withRules(0, 3, 0, 1, 1, 1);
        is("isForm(3, 0)", x.isForm(3, 0), true);
        is("isForm(6, 0), by one rule twice", x.isForm(6, 0), false);
        is("isForm(2, 0), by two rules", x.isForm(2, 0), false);
        is("isForm(4, 0), by both rules of its kind", x.isForm(4, 0), false);
    }

    // ---- promise 5: part

    private static void promise05HeadwordIs0To99() {
        Pocketgloss x = new Pocketgloss();
        is("part(0)", x.part(0), 1);
        is("part(99)", x.part(99), 2);
        fails("part(100)", INDEX, () -> x.part(100));
        fails("part(-2)", INDEX, () -> x.part(-2));
        is("part(99)", x.part(99), 3);
    }

    private static void promise05MinusOneIsAnOpenPart() {
        Pocketgloss x = new Pocketgloss();
        x.part(0);
        is("part(-1)", x.part(-1), 2);
        fails("part(-2)", INDEX, () -> x.part(-2));
        is("part(0)", x.part(0), 3);
        x.addPhrase(1);
        tell(x, 0, 99, 0);
        is("standings()", x.standings(), 1);
    }

    private static void promise05TheFirstPartIsNotOpen() {
        Pocketgloss x = new Pocketgloss();
        fails("part(NONE) as the first", STATE, () -> x.part(NONE));
        is("part(0)", x.part(0), 1);
        is("part(NONE) as the second", x.part(NONE), 2);
    }

    private static void promise05FourPartsAtMost() {
        Pocketgloss x = new Pocketgloss();
        for (int size = 1; size <= 4; size++) {
            is("part(8)", x.part(8), size);
        }
        fails("a fifth part", STATE, () -> x.part(8));
        fails("a fifth, open part", STATE, () -> x.part(NONE));
        Pocketgloss y = new Pocketgloss();
        y.part(8);
        for (int size = 2; size <= 4; size++) {
            is("part(NONE)", y.part(NONE), size);
        }
        fails("a fifth part behind open ones", STATE, () -> y.part(8));
        fails("a fifth, open part behind open ones", STATE, () -> y.part(NONE));
    }

    private static void promise05TheDraftIsEmptyBehindAPhrase() {
        for (int size = 1; size <= 4; size++) {
            Pocketgloss x = new Pocketgloss();
            for (int i = 0; i < size; i++) {
                x.part(8);
            }
            x.addPhrase(1);
            fails("part(NONE)", STATE, () -> x.part(NONE));
            is("part(8)", x.part(8), 1);
        }
    }

    private static void promise05OtherCallsLeaveTheDraft() {
        Pocketgloss x = new Pocketgloss();
        x.part(3);
        x.part(NONE);
        x.addRule(0, 1);
        x.addSplit(1, 2, 0, 1);
        x.learn(0, 0);
        x.takeOut(0);
        tell(x, 3, 9, 5);
        x.clear();
        x.setBare(2);
        x.pass(1);
        is("part(5)", x.part(5), 3);
        is("addPhrase(1)", x.addPhrase(1), 1);
        tell(x, 3, 9, 5);
        places(x, 5, 0, 5);
    }

    private static void promise05RefusedPartsAreNotAdded() {
        Pocketgloss x = new Pocketgloss();
        fails("part(NONE)", STATE, () -> x.part(NONE));
        fails("part(100)", INDEX, () -> x.part(100));
        for (int size = 1; size <= 4; size++) {
            is("part(" + size + ")", x.part(size), size);
            fails("part(-2)", INDEX, () -> x.part(-2));
        }
        fails("part(5)", STATE, () -> x.part(5));
        x.addPhrase(1);
        tell(x, 1, 2, 3, 4, 5);
        places(x, 15, 15, 15, 15, 0);
    }

    // ---- promise 6: addPhrase

    private static void promise06CostIs1To20() {
        Pocketgloss x = new Pocketgloss();
        x.setBare(50);
        x.part(1);
        fails("addPhrase(0)", ARGUMENT, () -> x.addPhrase(0));
        is("addPhrase(1)", x.addPhrase(1), 0);
        x.part(2);
        fails("addPhrase(21)", ARGUMENT, () -> x.addPhrase(21));
        is("addPhrase(20)", x.addPhrase(20), 1);
        tell(x, 1);
        costs(x, 1);
        tell(x, 2);
        costs(x, 20);
    }

    private static void promise06AnEmptyDraftIsNoPhrase() {
        Pocketgloss x = new Pocketgloss();
        fails("addPhrase(1)", STATE, () -> x.addPhrase(1));
        x.part(0);
        is("addPhrase(1), of one part", x.addPhrase(1), 0);
        fails("addPhrase(1) again", STATE, () -> x.addPhrase(1));
        is("entries()", x.entries(), 1);
    }

    private static void promise06FromOneToFourParts() {
        for (int size = 1; size <= 4; size++) {
            Pocketgloss x = new Pocketgloss();
            for (int word = 1; word <= size; word++) {
                x.part(word);
            }
            is("addPhrase(1)", x.addPhrase(1), 0);
            tell(x, 1, 2, 3, 4, 5, 6);
            is("standings()", x.standings(), 1);
            is("placesAt(0)", x.placesAt(0), (1 << size) - 1);
        }
    }

    private static void promise06TheLastPartIsNotOpen() {
        for (int open = 1; open <= 2; open++) {
            Pocketgloss x = new Pocketgloss();
            x.part(1);
            for (int i = 0; i < open; i++) {
                x.part(NONE);
                fails("addPhrase(1) behind an open part", STATE, () -> x.addPhrase(1));
            }
            is("part(2)", x.part(2), open + 2);
            is("addPhrase(1)", x.addPhrase(1), 0);
        }
    }

    /** The words ask for nothing else: neither call can change such a draft any more. */
    private static void promise06FourPartsWithAnOpenEndStay() {
        Pocketgloss x = new Pocketgloss();
        x.part(1);
        x.part(2);
        x.part(3);
        is("part(NONE)", x.part(NONE), 4);
        fails("addPhrase(1)", STATE, () -> x.addPhrase(1));
        fails("part(4)", STATE, () -> x.part(4));
        fails("addPhrase(1) again", STATE, () -> x.addPhrase(1));
        is("addSplit(1, 2, 0, 1)", x.addSplit(1, 2, 0, 1), 0);
        is("entries()", x.entries(), 1);
    }

    private static void promise06EightEntriesAreEverMade() {
        Pocketgloss x = new Pocketgloss();
        for (int number = 0; number < 8; number++) {
            is("phrase " + number, phrase(x, 1, number), number);
        }
        x.part(8);
        fails("a ninth", STATE, () -> x.addPhrase(1));
        for (int number = 0; number < 8; number++) {
            x.takeOut(number);
            fails("a ninth, though fewer are there", STATE, () -> x.addPhrase(1));
        }
        is("entries()", x.entries(), 0);
        is("part(8), for the draft stays", x.part(8), 2);
    }

    private static void promise06RefusalKeepsTheDraft() {
        Pocketgloss x = new Pocketgloss();
        x.part(1);
        fails("addPhrase(0)", ARGUMENT, () -> x.addPhrase(0));
        fails("addPhrase(21)", ARGUMENT, () -> x.addPhrase(21));
        is("part(NONE)", x.part(NONE), 2);
        fails("addPhrase(1)", STATE, () -> x.addPhrase(1));
        is("part(3)", x.part(3), 3);
        is("addPhrase(1)", x.addPhrase(1), 0);
        tell(x, 1, 2, 3);
        places(x, 5, 0, 5);
    }

    private static void promise06APhraseKeepsItsParts() {
        Pocketgloss x = new Pocketgloss();
        phrase(x, 1, 1, 2, 3, 4);
        phrase(x, 1, 5);
        x.part(6);
        x.part(6);
        tell(x, 1, 2, 3, 4, 5, 6);
        is("standings()", x.standings(), 2);
        places(x, 15, 15, 15, 15, 16, 0);
    }

    // ---- promise 7: addSplit

    private static void promise07HeadwordsAre0To99() {
        Pocketgloss x = new Pocketgloss();
        is("addSplit(0, 99, 0, 1)", x.addSplit(0, 99, 0, 1), 0);
        is("addSplit(99, 0, 0, 1)", x.addSplit(99, 0, 0, 1), 1);
        fails("addSplit(-1, 0, 0, 1)", INDEX, () -> x.addSplit(-1, 0, 0, 1));
        fails("addSplit(100, 0, 0, 1)", INDEX, () -> x.addSplit(100, 0, 0, 1));
        fails("addSplit(0, -1, 0, 1)", INDEX, () -> x.addSplit(0, -1, 0, 1));
        fails("addSplit(0, 100, 0, 1)", INDEX, () -> x.addSplit(0, 100, 0, 1));
        tell(x, 0, 99, 0);
        is("standings()", x.standings(), 2);
        is("addSplit(0, 0, 0, 1) behind those", x.addSplit(0, 0, 0, 1), 2);
    }

    private static void promise07ReachIs0To4() {
        Pocketgloss x = new Pocketgloss();
        fails("reach -1", ARGUMENT, () -> x.addSplit(1, 2, -1, 1));
        fails("reach 5", ARGUMENT, () -> x.addSplit(1, 2, 5, 1));
        for (int reach = 0; reach <= 4; reach++) {
            is("reach " + reach, x.addSplit(1, 2, reach, 1), reach);
        }
    }

    private static void promise07CostIs1To20() {
        Pocketgloss x = new Pocketgloss();
        x.setBare(50);
        fails("cost 0", ARGUMENT, () -> x.addSplit(1, 2, 0, 0));
        fails("cost 21", ARGUMENT, () -> x.addSplit(1, 2, 0, 21));
        is("cost 1", x.addSplit(1, 2, 0, 1), 0);
        is("cost 20", x.addSplit(3, 4, 0, 20), 1);
        tell(x, 1, 2);
        costs(x, 1);
        tell(x, 3, 4);
        costs(x, 20);
    }

    private static void promise07EightEntriesAreEverMade() {
        Pocketgloss x = withEightEntries();
        fails("a ninth", STATE, () -> x.addSplit(1, 2, 0, 1));
        for (int number = 7; number >= 0; number--) {
            x.takeOut(number);
            fails("a ninth, though fewer are there", STATE, () -> x.addSplit(1, 2, 0, 1));
        }
    }

    private static void promise07PhrasesAndSplitsShareTheEight() {
        Pocketgloss x = new Pocketgloss();
        for (int number = 0; number < 8; number += 2) {
            is("a phrase", phrase(x, 1, 1), number);
            is("a split entry", x.addSplit(1, 2, 0, 1), number + 1);
        }
        x.part(1);
        fails("a ninth, a phrase", STATE, () -> x.addPhrase(1));
        fails("a ninth, a split entry", STATE, () -> x.addSplit(1, 2, 0, 1));
    }

    private static void promise07BothHeadwordsMayBeTheSame() {
        Pocketgloss x = new Pocketgloss();
        is("addSplit(1, 1, 0, 1)", x.addSplit(1, 1, 0, 1), 0);
        tell(x, 1);
        is("standings() in one word", x.standings(), 0);
        tell(x, 1, 1);
        is("standings() in two words", x.standings(), 1);
    }

    // ---- promise 8: takeOut

    private static void promise08OnlyAnEntryThatIsThere() {
        Pocketgloss x = new Pocketgloss();
        fails("takeOut(0) before it is made", ELEMENT, () -> x.takeOut(0));
        phrase(x, 1, 1);
        fails("takeOut(-1)", ELEMENT, () -> x.takeOut(-1));
        fails("takeOut(1)", ELEMENT, () -> x.takeOut(1));
        is("takeOut(0)", x.takeOut(0), 0);
        fails("takeOut(0) again", ELEMENT, () -> x.takeOut(0));
        Pocketgloss y = withEightEntries();
        fails("takeOut(8)", ELEMENT, () -> y.takeOut(8));
        is("takeOut(7)", y.takeOut(7), 0);
        fails("takeOut(7) again", ELEMENT, () -> y.takeOut(7));
        is("takeOut(0)", y.takeOut(0), 0);
        is("entries()", y.entries(), 6);
    }

    private static void promise08From0To3ReadersHadACard() {
        Pocketgloss x = withEightEntries();
        for (int entry = 0; entry <= 3; entry++) {
            for (int reader = 0; reader < entry; reader++) {
                x.learn(2 - reader, entry);
            }
        }
        for (int entry = 0; entry <= 3; entry++) {
            is("takeOut(" + entry + ")", x.takeOut(entry), entry);
        }
    }

    private static void promise08CardsForItAloneAreGone() {
        Pocketgloss x = withEightEntries();
        for (int entry = 3; entry <= 5; entry++) {
            x.learn(1, entry);
        }
        x.learn(2, 4);
        x.pass(1);
        is("review(1, 5, true)", x.review(1, 5, true), 2);
        is("takeOut(4)", x.takeOut(4), 2);
        is("due(1)", x.due(1), 1);
        is("due(2)", x.due(2), 0);
        is("nextDue(1)", x.nextDue(1), 3);
        is("nextDue(2)", x.nextDue(2), NONE);
        x.pass(2);
        is("review(1, 5, true)", x.review(1, 5, true), 4);
        is("learn(1, 0)", x.learn(1, 0), 3);
    }

    private static void promise08ItsNumberIsNotGivenAgain() {
        Pocketgloss x = new Pocketgloss();
        phrase(x, 1, 1);
        phrase(x, 1, 2);
        x.learn(0, 1);
        x.takeOut(1);
        is("a phrase", phrase(x, 1, 2), 2);
        is("learn(0, 2)", x.learn(0, 2), 1);
        fails("takeOut(1)", ELEMENT, () -> x.takeOut(1));
    }

    private static void promise08ItStandsNoLonger() {
        Pocketgloss x = new Pocketgloss();
        phrase(x, 1, 1);
        phrase(x, 2, 1);
        tell(x, 1);
        costs(x, 1);
        x.takeOut(0);
        is("standings()", x.standings(), 1);
        costs(x, 2);
        is("glossAt(0)", x.glossAt(0), 1);
        x.takeOut(1);
        is("standings()", x.standings(), 0);
        costs(x, 10);
        is("glossAt(0)", x.glossAt(0), NONE);
    }

    // ---- promise 9: entries

    private static void promise09From0To8() {
        Pocketgloss x = new Pocketgloss();
        is("entries()", x.entries(), 0);
        for (int count = 1; count <= 8; count++) {
            x.part(1);
            is("entries(), a draft is none", x.entries(), count - 1);
            x.addPhrase(1);
            is("entries()", x.entries(), count);
        }
        fails("a ninth", STATE, () -> x.addSplit(1, 2, 0, 1));
        is("entries()", x.entries(), 8);
        for (int count = 7; count >= 0; count--) {
            x.takeOut(7 - count);
            is("entries()", x.entries(), count);
        }
    }

    // ---- promise 10: say

    private static void promise10WordIs0To99() {
        Pocketgloss x = new Pocketgloss();
        fails("say(-1)", INDEX, () -> x.say(-1));
        fails("say(100)", INDEX, () -> x.say(100));
        is("say(0)", x.say(0), 1);
        is("say(99)", x.say(99), 2);
        phrase(x, 1, 0);
        phrase(x, 1, 99);
        glosses(x, 0, 1);
    }

    private static void promise10SixWordsAtMost() {
        Pocketgloss x = new Pocketgloss();
        phrase(x, 1, 7);
        for (int size = 1; size <= 6; size++) {
            is("say(7)", x.say(7), size);
            is("standings()", x.standings(), size);
        }
        fails("a seventh word", STATE, () -> x.say(7));
        is("standings()", x.standings(), 6);
        is("clear()", x.clear(), 6);
        is("say(7) of the empty sentence", x.say(7), 1);
    }

    private static void promise10AtTheEnd() {
        Pocketgloss x = new Pocketgloss();
        for (int word = 0; word < 6; word++) {
            phrase(x, 1, word);
        }
        for (int word = 5; word >= 0; word--) {
            x.say(word);
        }
        glosses(x, 5, 4, 3, 2, 1, 0);
    }

    // ---- promise 11: clear

    private static void promise11From0To6Words() {
        for (int size = 0; size <= 6; size++) {
            Pocketgloss x = new Pocketgloss();
            for (int i = 0; i < size; i++) {
                x.say(i);
            }
            is("clear()", x.clear(), size);
            is("clear() again", x.clear(), 0);
            costs(x, 0);
            fails("glossAt(0)", INDEX, () -> x.glossAt(0));
        }
    }

    private static void promise11NothingElseIsEmptied() {
        Pocketgloss x = withRules(0, 1);
        phrase(x, 4, 3);
        x.part(3);
        x.learn(0, 0);
        x.pass(1);
        x.setBare(5);
        tell(x, 4, 9);
        x.clear();
        is("entries()", x.entries(), 1);
        is("headwords(4)", x.headwords(4), 2);
        is("due(0)", x.due(0), 1);
        is("part(3)", x.part(3), 2);
        is("pass(1)", x.pass(1), 2);
        tell(x, 4, 9);
        costs(x, 9);
        is("setBare(1)", x.setBare(1), 5);
    }

    // ---- promise 12: setBare

    private static void promise12CostIs1To50() {
        Pocketgloss x = new Pocketgloss();
        x.say(0);
        fails("setBare(0)", ARGUMENT, () -> x.setBare(0));
        costs(x, 10);
        fails("setBare(51)", ARGUMENT, () -> x.setBare(51));
        costs(x, 10);
        is("setBare(1)", x.setBare(1), 10);
        costs(x, 1);
        is("setBare(50)", x.setBare(50), 1);
        costs(x, 50);
        fails("setBare(-1)", ARGUMENT, () -> x.setBare(-1));
        is("setBare(50) again", x.setBare(50), 50);
        is("setBare(49)", x.setBare(49), 50);
    }

    private static void promise12ForWordsSaidBeforeAndBehind() {
        Pocketgloss x = new Pocketgloss();
        x.say(0);
        x.setBare(3);
        x.say(0);
        costs(x, 6);
        is("clear()", x.clear(), 2);
        x.say(0);
        costs(x, 3);
    }

    public static void main(String[] args) {
        eachOf(PocketglossEdgesOfEntries.class, 1, 2, 3, 4, 5, 6, 7, 8, 9, 10, 11, 12);
        end("of the edges of rules and entries");
    }
}
