/** The promises of the document one by one: ordinary inputs, edges and wrong inputs. */
public final class PocketglossPromises extends Checks {
    private static void newObject() {
        Pocketgloss x = new Pocketgloss();
        is("NONE", Pocketgloss.NONE, -1);
        is("entries()", x.entries(), 0);
        is("standings()", x.standings(), 0);
        costs(x, 0);
        for (int word = 0; word < 100; word++) {
            is("headwords(" + word + ")", x.headwords(word), 1);
        }
        for (int reader = 0; reader < 3; reader++) {
            is("newEntries", x.newEntries(reader), 0);
            is("due", x.due(reader), 0);
            is("nextDue", x.nextDue(reader), NONE);
        }
        fails("addPhrase(1) of an empty draft", STATE, () -> x.addPhrase(1));
        is("clear()", x.clear(), 0);
        is("setBare(7)", x.setBare(7), 10);
        is("addRule(0, 1)", x.addRule(0, 1), 0);
        is("part(1)", x.part(1), 1);
        is("addPhrase(1)", x.addPhrase(1), 0);
        is("say(1)", x.say(1), 1);
        is("pass(1)", x.pass(1), 1);
        Pocketgloss y = new Pocketgloss();
        is("entries() of another", y.entries(), 0);
        is("headwords(1) of another", y.headwords(1), 1);
        is("cost() of another", y.cost(), 0);
    }

    private static void addRule() {
        Pocketgloss x = new Pocketgloss();
        for (int bad : OUTSIDE) {
            failsIdly(x, "addRule(" + bad + ", 1)", ARGUMENT, () -> x.addRule(bad, 1));
            failsIdly(x, "addRule(0, " + bad + ")", ARGUMENT, () -> x.addRule(0, bad));
        }
        failsIdly(x, "addRule(-1, 1)", ARGUMENT, () -> x.addRule(-1, 1));
        failsIdly(x, "addRule(3, 1)", ARGUMENT, () -> x.addRule(3, 1));
        failsIdly(x, "addRule(0, 0)", ARGUMENT, () -> x.addRule(0, 0));
        failsIdly(x, "addRule(2, 51)", ARGUMENT, () -> x.addRule(2, 51));
        is("addRule(0, 1)", x.addRule(0, 1), 0);
        is("addRule(1, 50)", x.addRule(1, 50), 1);
        is("addRule(2, 50)", x.addRule(2, 50), 2);
        is("the same rule again", x.addRule(2, 50), 3);
        is("addRule(2, 1)", x.addRule(2, 1), 4);
        is("isForm(1, 0) with five rules", x.isForm(1, 0), true);
        is("isForm(8, 0) before its rule", x.isForm(8, 0), false);
        is("addRule(0, 8)", x.addRule(0, 8), 5);
        is("isForm(8, 0) by the sixth rule", x.isForm(8, 0), true);
        failsIdly(x, "a seventh rule", STATE, () -> x.addRule(1, 3));
        failsIdly(x, "a seventh rule of kind 3", ARGUMENT, () -> x.addRule(3, 3));
        failsIdly(x, "a seventh rule of step 51", ARGUMENT, () -> x.addRule(0, 51));
    }

    private static void headwords() {
        Pocketgloss x = new Pocketgloss();
        for (int bad : OUTSIDE) {
            fails("headwords(" + bad + ")", INDEX, () -> x.headwords(bad));
        }
        fails("headwords(-1)", INDEX, () -> x.headwords(-1));
        fails("headwords(100)", INDEX, () -> x.headwords(100));
        x.addRule(0, 1);
        is("headwords(0)", x.headwords(0), 1);
        is("headwords(1)", x.headwords(1), 2);
        is("headwords(2)", x.headwords(2), 1);
        is("headwords(99)", x.headwords(99), 1);
        is("headwords(97)", x.headwords(97), 2);
        x.addRule(0, 1);
        is("headwords(1), a headword counts once", x.headwords(1), 2);
        x.addRule(2, 2);
        is("headwords(1), 2 steps before 0", x.headwords(1), 2);
        is("headwords(4)", x.headwords(4), 3);
        x.addRule(1, 3);
        is("headwords(4)", x.headwords(4), 4);
        x.addRule(1, 50);
        is("headwords(99), from 49", x.headwords(99), 2);
        is("headwords(50), from 0 only with kind 1", x.headwords(50), 1);
        is("headwords(51)", x.headwords(51), 2);
        is("headwords(0)", x.headwords(0), 1);
        is("headwords(12)", x.headwords(12), 1);
        x.addRule(0, 12);
        is("headwords(12), from 0", x.headwords(12), 2);
    }

    private static void isForm() {
        Pocketgloss x = new Pocketgloss();
        for (int bad : OUTSIDE) {
            fails("isForm(" + bad + ", 0)", INDEX, () -> x.isForm(bad, 0) ? 1 : 0);
            fails("isForm(0, " + bad + ")", INDEX, () -> x.isForm(0, bad) ? 1 : 0);
            fails("isForm(bad, bad)", INDEX, () -> x.isForm(bad, bad) ? 1 : 0);
        }
        fails("isForm(-1, 0)", INDEX, () -> x.isForm(-1, 0) ? 1 : 0);
        fails("isForm(100, 0)", INDEX, () -> x.isForm(100, 0) ? 1 : 0);
        fails("isForm(0, -1)", INDEX, () -> x.isForm(0, -1) ? 1 : 0);
        fails("isForm(0, 100)", INDEX, () -> x.isForm(0, 100) ? 1 : 0);
        is("isForm(99, 99)", x.isForm(99, 99), true);
        is("isForm(0, 0)", x.isForm(0, 0), true);
        is("isForm(5, 4)", x.isForm(5, 4), false);
        x.addRule(1, 1);
        is("isForm(5, 4)", x.isForm(5, 4), true);
        is("isForm(4, 5), not back", x.isForm(4, 5), false);
        is("isForm(6, 4), not twice", x.isForm(6, 4), false);
        is("isForm(4, 3), another kind", x.isForm(4, 3), false);
        is("isForm(6, 5), another kind", x.isForm(6, 5), false);
        is("isForm(4, 4), the same still", x.isForm(4, 4), true);
        is("isForm(98, 97)", x.isForm(98, 97), true);
        x.addRule(2, 1);
        is("isForm(6, 5)", x.isForm(6, 5), true);
        is("isForm(6, 4), not by two rules", x.isForm(6, 4), false);
        x.addRule(0, 50);
        is("isForm(98, 48)", x.isForm(98, 48), true);
        is("isForm(99, 49)", x.isForm(99, 49), false);
        is("isForm(49, 99), not round the end", x.isForm(49, 99), false);
    }

    private static void part() {
        Pocketgloss x = new Pocketgloss();
        for (int bad : OUTSIDE) {
            fails("part(" + bad + ")", INDEX, () -> x.part(bad));
        }
        fails("part(100)", INDEX, () -> x.part(100));
        fails("part(-2)", INDEX, () -> x.part(-2));
        fails("part(NONE) at first", STATE, () -> x.part(NONE));
        is("part(0)", x.part(0), 1);
        is("part(NONE)", x.part(NONE), 2);
        is("part(NONE)", x.part(NONE), 3);
        fails("part(100) in a draft", INDEX, () -> x.part(100));
        is("part(99)", x.part(99), 4);
        fails("a fifth part", STATE, () -> x.part(1));
        fails("a fifth, open part", STATE, () -> x.part(NONE));
        fails("a fifth part that is no headword", INDEX, () -> x.part(100));
        fails("a fifth part that is no headword", INDEX, () -> x.part(-2));
        is("clear() leaves the draft", x.clear(), 0);
        is("addSplit leaves the draft", x.addSplit(1, 1, 0, 1), 0);
        is("addPhrase(3)", x.addPhrase(3), 1);
        fails("part(NONE) after a phrase", STATE, () -> x.part(NONE));
        is("part(7)", x.part(7), 1);
        tell(x, 0, 98, 98, 99);
        is("standings(), of the phrase that was told", x.standings(), 1);
        places(x, 9, 0, 0, 9);
    }

    private static void addPhrase() {
        Pocketgloss x = new Pocketgloss();
        for (int bad : OUTSIDE) {
            fails("addPhrase(" + bad + ") of an empty draft", ARGUMENT, () -> x.addPhrase(bad));
        }
        fails("addPhrase(0)", ARGUMENT, () -> x.addPhrase(0));
        fails("addPhrase(21)", ARGUMENT, () -> x.addPhrase(21));
        fails("addPhrase(1) of an empty draft", STATE, () -> x.addPhrase(1));
        x.part(1);
        x.part(NONE);
        fails("addPhrase(1) behind an open part", STATE, () -> x.addPhrase(1));
        fails("addPhrase(0) behind an open part", ARGUMENT, () -> x.addPhrase(0));
        is("part(2), the draft has stayed", x.part(2), 3);
        fails("addPhrase(21)", ARGUMENT, () -> x.addPhrase(21));
        is("addPhrase(20)", x.addPhrase(20), 0);
        fails("addPhrase(1), the draft is empty", STATE, () -> x.addPhrase(1));
        is("a phrase of 1 part", phrase(x, 1, 5), 1);
        is("a phrase of 2 parts", phrase(x, 2, 1, 2), 2);
        is("a phrase of 4 parts", phrase(x, 2, 1, 2, 3, 4), 3);
        is("entries()", x.entries(), 4);
        for (int number = 4; number < 8; number++) {
            is("phrase " + number, phrase(x, 3, 50 + number), number);
        }
        x.part(9);
        failsIdly(x, "a ninth entry", STATE, () -> x.addPhrase(1));
        failsIdly(x, "a ninth entry of cost 0", ARGUMENT, () -> x.addPhrase(0));
        is("part(9), the draft has stayed", x.part(9), 2);
        x.takeOut(7);
        failsIdly(x, "a ninth entry, one being out", STATE, () -> x.addPhrase(1));
        is("entries()", x.entries(), 7);
        tell(x, 1, 9, 2, 5);
        costs(x, 31);
        glosses(x, 0, NONE, 0, 1);
    }

    private static void addSplit() {
        Pocketgloss x = new Pocketgloss();
        for (int bad : OUTSIDE) {
            failsIdly(x, "first " + bad, INDEX, () -> x.addSplit(bad, 0, 0, 1));
            failsIdly(x, "second " + bad, INDEX, () -> x.addSplit(0, bad, 0, 1));
            failsIdly(x, "reach " + bad, ARGUMENT, () -> x.addSplit(0, 0, bad, 1));
            failsIdly(x, "cost " + bad, ARGUMENT, () -> x.addSplit(0, 0, 0, bad));
            failsIdly(x, "all " + bad, INDEX, () -> x.addSplit(bad, bad, bad, bad));
        }
        fails("first -1", INDEX, () -> x.addSplit(-1, 0, 0, 1));
        fails("first 100", INDEX, () -> x.addSplit(100, 0, 0, 1));
        fails("second -1", INDEX, () -> x.addSplit(0, -1, 0, 1));
        fails("second 100", INDEX, () -> x.addSplit(0, 100, 0, 1));
        fails("reach -1", ARGUMENT, () -> x.addSplit(0, 0, -1, 1));
        fails("reach 5", ARGUMENT, () -> x.addSplit(0, 0, 5, 1));
        fails("cost 0", ARGUMENT, () -> x.addSplit(0, 0, 0, 0));
        fails("cost 21", ARGUMENT, () -> x.addSplit(0, 0, 0, 21));
        fails("second 100, reach 5", INDEX, () -> x.addSplit(0, 100, 5, 1));
        fails("second 100, cost 0", INDEX, () -> x.addSplit(0, 100, 0, 0));
        is("addSplit(0, 99, 0, 1)", x.addSplit(0, 99, 0, 1), 0);
        is("addSplit(99, 0, 4, 20)", x.addSplit(99, 0, 4, 20), 1);
        is("a phrase", phrase(x, 20, 99), 2);
        is("addSplit(4, 4, 1, 2)", x.addSplit(4, 4, 1, 2), 3);
        is("entries()", x.entries(), 4);
        for (int number = 4; number < 8; number++) {
            is("split entry " + number, x.addSplit(20, 30, 0, 3), number);
        }
        failsIdly(x, "a ninth entry", STATE, () -> x.addSplit(0, 0, 0, 1));
        failsIdly(x, "a ninth entry, first 100", INDEX, () -> x.addSplit(100, 0, 0, 1));
        failsIdly(x, "a ninth entry, reach 5", ARGUMENT, () -> x.addSplit(0, 0, 5, 1));
        failsIdly(x, "a ninth entry, cost 21", ARGUMENT, () -> x.addSplit(0, 0, 0, 21));
        x.takeOut(0);
        failsIdly(x, "a ninth entry, one being out", STATE, () -> x.addSplit(0, 0, 0, 1));
        tell(x, 99, 1, 1, 1, 1, 0);
        costs(x, 60);
        glosses(x, 1, NONE, NONE, NONE, NONE, 1);
    }

    private static void takeOut() {
        Pocketgloss x = new Pocketgloss();
        fails("takeOut(0) of a new object", ELEMENT, () -> x.takeOut(0));
        phrase(x, 1, 3);
        x.addSplit(3, 4, 1, 2);
        phrase(x, 2, 3);
        tell(x, 3, 4);
        for (int bad : OUTSIDE) {
            failsIdly(x, "takeOut(" + bad + ")", ELEMENT, () -> x.takeOut(bad));
        }
        failsIdly(x, "takeOut(-1)", ELEMENT, () -> x.takeOut(-1));
        failsIdly(x, "takeOut(3)", ELEMENT, () -> x.takeOut(3));
        failsIdly(x, "takeOut(8)", ELEMENT, () -> x.takeOut(8));
        x.learn(0, 1);
        x.learn(1, 1);
        x.learn(2, 1);
        x.learn(2, 0);
        costs(x, 2);
        is("takeOut(1)", x.takeOut(1), 3);
        costs(x, 11);
        is("entries()", x.entries(), 2);
        is("standings()", x.standings(), 2);
        is("nextDue(0), the card is gone", x.nextDue(0), NONE);
        is("nextDue(2), another card stays", x.nextDue(2), 0);
        failsIdly(x, "takeOut(1) again", ELEMENT, () -> x.takeOut(1));
        fails("learn(0, 1)", ELEMENT, () -> x.learn(0, 1));
        fails("knows(0, 1)", ELEMENT, () -> x.knows(0, 1) ? 1 : 0);
        fails("review(0, 1, true)", ELEMENT, () -> x.review(0, 1, true));
        is("learn(0, 0), the reader's only card", x.learn(0, 0), 1);
        is("takeOut(0)", x.takeOut(0), 2);
        is("takeOut(2)", x.takeOut(2), 0);
        is("a new entry's number", phrase(x, 1, 3), 3);
        is("entries()", x.entries(), 1);
    }

    private static void entries() {
        Pocketgloss x = new Pocketgloss();
        is("entries()", x.entries(), 0);
        x.part(1);
        is("entries(), a draft is none", x.entries(), 0);
        x.addPhrase(1);
        is("entries()", x.entries(), 1);
        for (int number = 1; number < 8; number++) {
            x.addSplit(1, 2, 0, 1);
            is("entries()", x.entries(), number + 1);
        }
        for (int number = 7; number >= 0; number--) {
            x.takeOut(number);
            is("entries()", x.entries(), number);
        }
    }

    private static void say() {
        Pocketgloss x = new Pocketgloss();
        for (int bad : OUTSIDE) {
            failsIdly(x, "say(" + bad + ")", INDEX, () -> x.say(bad));
        }
        failsIdly(x, "say(-1)", INDEX, () -> x.say(-1));
        failsIdly(x, "say(100)", INDEX, () -> x.say(100));
        phrase(x, 3, 99);
        phrase(x, 4, 0);
        int[] words = {0, 99, 50, 50, 0, 99};
        for (int i = 0; i < words.length; i++) {
            is("say(" + words[i] + ")", x.say(words[i]), i + 1);
        }
        glosses(x, 1, 0, NONE, NONE, 1, 0);
        failsIdly(x, "a seventh word", STATE, () -> x.say(99));
        failsIdly(x, "a seventh word that is none", INDEX, () -> x.say(100));
        is("clear()", x.clear(), 6);
        is("say(50)", x.say(50), 1);
        glosses(x, NONE);
    }

    private static void clear() {
        Pocketgloss x = new Pocketgloss();
        is("clear()", x.clear(), 0);
        phrase(x, 3, 7);
        phrase(x, 4, 7, 8);
        x.learn(0, 0);
        tell(x, 7, 8, 7);
        is("clear()", x.clear(), 3);
        is("clear() again", x.clear(), 0);
        is("standings()", x.standings(), 0);
        costs(x, 0);
        fails("glossAt(0)", INDEX, () -> x.glossAt(0));
        is("newEntries(1)", x.newEntries(1), 0);
        is("entries()", x.entries(), 2);
        is("nextDue(0)", x.nextDue(0), 0);
        x.say(7);
        is("standings(), the words behind are gone", x.standings(), 1);
        costs(x, 3);
    }

    private static void setBare() {
        Pocketgloss x = new Pocketgloss();
        tell(x, 1, 2);
        for (int bad : OUTSIDE) {
            failsIdly(x, "setBare(" + bad + ")", ARGUMENT, () -> x.setBare(bad));
        }
        failsIdly(x, "setBare(0)", ARGUMENT, () -> x.setBare(0));
        failsIdly(x, "setBare(51)", ARGUMENT, () -> x.setBare(51));
        costs(x, 20);
        is("setBare(1)", x.setBare(1), 10);
        costs(x, 2);
        is("setBare(50)", x.setBare(50), 1);
        costs(x, 100);
        is("clear() leaves it", x.clear(), 2);
        is("setBare(50)", x.setBare(50), 50);
        is("setBare(10)", x.setBare(10), 50);
    }

    private static void standings() {
        Pocketgloss x = new Pocketgloss();
        tell(x, 1, 1, 1, 1, 1, 1);
        is("standings() without entries", x.standings(), 0);
        phrase(x, 1, 1);
        is("of 1 part", x.standings(), 6);
        phrase(x, 1, 1, 1);
        is("of 2 parts", x.standings(), 6 + 5);
        phrase(x, 1, 1, NONE, 1);
        is("with an open part", x.standings(), 6 + 5 + 4);
        phrase(x, 1, 1, NONE, NONE, 1);
        is("with two open parts", x.standings(), 6 + 5 + 4 + 3);
        for (int reach = 0; reach < 4; reach++) {
            x.addSplit(1, 1, reach, 1);
        }
        is("with splits", x.standings(), 18 + 5 + 9 + 12 + 14);
        x.takeOut(0);
        is("without the first", x.standings(), 12 + 40);
        Pocketgloss y = new Pocketgloss();
        for (int number = 0; number < 8; number++) {
            y.addSplit(1, 1, 4, 1);
        }
        tell(y, 1, 1, 1, 1, 1, 1);
        is("the most that there can be", y.standings(), 120);
        tell(y, 1, 1, 1, 1, 2, 2);
        is("in two words fewer", y.standings(), 48);
        tell(y, 1, 2, 2, 2, 2, 1);
        is("at both ends", y.standings(), 8);
    }

    private static void standingsByForms() {
        Pocketgloss x = new Pocketgloss();
        phrase(x, 1, 3, NONE, 7);
        tell(x, 3, 7);
        is("no place for the open part", x.standings(), 0);
        tell(x, 3, 3, 7);
        is("standings()", x.standings(), 1);
        tell(x, 3, 5, 6, 7);
        is("one word too many between", x.standings(), 0);
        tell(x, 4, 5, 7);
        is("standings()", x.standings(), 0);
        x.addRule(0, 1);
        is("the first by a rule", x.standings(), 1);
        tell(x, 4, 5, 9);
        is("standings()", x.standings(), 0);
        x.addRule(1, 2);
        is("the last by a rule", x.standings(), 1);
        tell(x, 1, 3, 5, 7);
        is("behind a word", x.standings(), 1);
        tell(x, 7, 5, 3);
        is("not backwards", x.standings(), 0);
        Pocketgloss y = new Pocketgloss();
        y.addSplit(3, 7, 1, 1);
        tell(y, 7, 3);
        is("not backwards", y.standings(), 0);
        tell(y, 3, 7);
        is("side by side", y.standings(), 1);
        tell(y, 3, 5, 7, 7);
        is("as far as the reach", y.standings(), 1);
        tell(y, 3, 3, 7, 7);
        is("several ways", y.standings(), 3);
        tell(y, 4, 9);
        is("standings()", y.standings(), 0);
        y.addRule(0, 1);
        y.addRule(1, 2);
        is("by rules", y.standings(), 1);
        tell(y, 3);
        is("a single word", y.standings(), 0);
    }

    private static void cost() {
        Pocketgloss x = new Pocketgloss();
        costs(x, 0);
        tell(x, 1, 2, 3);
        costs(x, 30);
        phrase(x, 12, 1);
        costs(x, 30);
        phrase(x, 9, 1);
        costs(x, 29);
        phrase(x, 15, 1, 2);
        costs(x, 25);
        phrase(x, 15, 2, 3);
        costs(x, 24);
        x.addSplit(1, 3, 1, 6);
        costs(x, 16);
        phrase(x, 1, 1, NONE, 3);
        costs(x, 11);
        phrase(x, 5, 2);
        costs(x, 6);
        x.setBare(1);
        costs(x, 2);
        x.setBare(50);
        costs(x, 6);
        tell(x, 1, 1, 1, 3, 3, 3);
        costs(x, 9 + 1 + 1 + 50);
        x.addRule(1, 2);
        costs(x, 9 + 1 + 1 + 9);
        x.addRule(0, 1);
        costs(x, 20);
        tell(x, 9, 9, 9, 9, 9, 9);
        costs(x, 300);
    }

    /** Each question of the sentence, asked before any other, and when something changed. */
    private static void askedFirst() {
        for (int question = 0; question < 6; question++) {
            Pocketgloss x = new Pocketgloss();
            phrase(x, 3, 1);
            phrase(x, 4, 2, 1);
            tell(x, 1, 3);
            is("question " + question, ask(x, question), new int[] {1, 13, 13, 0, 1, 1}[question]);
            tell(x, 2, 1, 1);
            is("question " + question, ask(x, question), new int[] {3, 7, 7, 1, 3, 2}[question]);
            x.takeOut(1);
            is("question " + question, ask(x, question), new int[] {2, 16, 16, -1, 0, 1}[question]);
            x.addRule(1, 1);
            is("question " + question, ask(x, question), new int[] {3, 9, 9, 0, 1, 1}[question]);
        }
    }

    private static int ask(Pocketgloss x, int question) {
        switch (question) {
            case 0: return x.standings();
            case 1: return x.cost();
            case 2: return x.costByAll();
            case 3: return x.glossAt(0);
            case 4: return x.placesAt(0);
            default: return x.newEntries(0);
        }
    }

    /** Where the cheapest standing at the first place does not belong to the best cover. */
    private static void costByCover() {
        Pocketgloss x = new Pocketgloss();
        phrase(x, 1, 1, 2);
        phrase(x, 1, 2, 3, 4, 5);
        tell(x, 1, 2, 3, 4, 5);
        costs(x, 11);
        glosses(x, NONE, 1, 1, 1, 1);
        tell(x, 1, 2, 3, 4);
        costs(x, 21);
        Pocketgloss y = new Pocketgloss();
        y.addSplit(1, 2, 4, 4);
        tell(y, 1, 1, 1, 2, 2, 2);
        costs(y, 12);
        y.addSplit(1, 2, 0, 1);
        costs(y, 9);
        places(y, 17, 34, 12, 12, 17, 34);
        glosses(y, 0, 0, 1, 1, 0, 0);
    }

    private static void glossAt() {
        Pocketgloss x = new Pocketgloss();
        fails("glossAt(0)", INDEX, () -> x.glossAt(0));
        tell(x, 1, 1);
        for (int bad : OUTSIDE) {
            fails("glossAt(" + bad + ")", INDEX, () -> x.glossAt(bad));
        }
        fails("glossAt(-1)", INDEX, () -> x.glossAt(-1));
        fails("glossAt(2)", INDEX, () -> x.glossAt(2));
        glosses(x, NONE, NONE);
        x.addSplit(1, 1, 0, 20);
        glosses(x, 0, 0);
        phrase(x, 10, 1);
        glosses(x, 0, 0);
        x.takeOut(0);
        glosses(x, 1, 1);
        phrase(x, 10, 1);
        glosses(x, 1, 1);
        x.takeOut(1);
        glosses(x, 2, 2);
        x.setBare(9);
        glosses(x, NONE, NONE);
        x.setBare(11);
        glosses(x, 2, 2);
        tell(x, 1, 1, 1, 1, 1, 2);
        glosses(x, 2, 2, 2, 2, 2, NONE);
        fails("glossAt(6)", INDEX, () -> x.glossAt(6));
    }

    /** Of covers with the same cost the one goes first that is better at the first place. */
    private static void glossOfEquals() {
        Pocketgloss x = new Pocketgloss();
        phrase(x, 10, 2);
        phrase(x, 20, 1, 2);
        tell(x, 1, 2);
        costs(x, 20);
        glosses(x, 1, 1);
        Pocketgloss y = new Pocketgloss();
        phrase(y, 5, 9);
        y.addSplit(1, 1, 4, 10);
        tell(y, 1, 9, 1, 1);
        costs(y, 25);
        places(y, 5, 2, 5, 0);
        tell(y, 1, 1, 1);
        places(y, 3, 3, 0);
        glosses(y, 1, 1, NONE);
        Pocketgloss z = new Pocketgloss();
        phrase(z, 4, 1, NONE, 1);
        phrase(z, 4, 1, 1);
        tell(z, 1, 1, 1, 1);
        costs(z, 8);
        glosses(z, 0, 0, 0, 0);
        places(z, 5, 10, 5, 10);
        z.takeOut(0);
        places(z, 3, 3, 12, 12);
    }

    private static void placesAt() {
        Pocketgloss x = new Pocketgloss();
        fails("placesAt(0)", INDEX, () -> x.placesAt(0));
        tell(x, 1, 2, 3, 4, 5, 6);
        for (int bad : OUTSIDE) {
            fails("placesAt(" + bad + ")", INDEX, () -> x.placesAt(bad));
        }
        fails("placesAt(-1)", INDEX, () -> x.placesAt(-1));
        fails("placesAt(6)", INDEX, () -> x.placesAt(6));
        places(x, 0, 0, 0, 0, 0, 0);
        phrase(x, 1, 1, NONE, NONE, 4);
        places(x, 9, 0, 0, 9, 0, 0);
        phrase(x, 1, 3, NONE, 5);
        places(x, 9, 0, 20, 9, 20, 0);
        x.addSplit(2, 6, 3, 1);
        places(x, 9, 34, 20, 9, 20, 34);
        phrase(x, 1, 3, 4, 5, 6);
        places(x, 9, 34, 20, 9, 20, 34);
        x.takeOut(0);
        places(x, 0, 0, 60, 60, 60, 60);
        x.clear();
        x.say(6);
        fails("placesAt(1)", INDEX, () -> x.placesAt(1));
        places(x, 0);
    }

    private static void newEntries() {
        Pocketgloss x = new Pocketgloss();
        for (int bad : OUTSIDE) {
            fails("newEntries(" + bad + ")", INDEX, () -> x.newEntries(bad));
        }
        fails("newEntries(-1)", INDEX, () -> x.newEntries(-1));
        fails("newEntries(3)", INDEX, () -> x.newEntries(3));
        phrase(x, 1, 1);
        phrase(x, 2, 1);
        phrase(x, 3, 2);
        is("of an empty sentence", x.newEntries(0), 0);
        tell(x, 1, 1, 1, 3);
        is("each counts once", x.newEntries(0), 1);
        x.say(2);
        is("newEntries(2)", x.newEntries(2), 2);
        x.learn(2, 0);
        is("newEntries(2)", x.newEntries(2), 1);
        is("newEntries(0), of another reader", x.newEntries(0), 2);
        x.learn(2, 1);
        is("a card for an entry outside the cover", x.newEntries(2), 1);
        x.learn(2, 2);
        is("newEntries(2)", x.newEntries(2), 0);
        x.takeOut(0);
        is("newEntries(2), now with entry 1", x.newEntries(2), 0);
        is("newEntries(1), now with entry 1", x.newEntries(1), 2);
        Pocketgloss y = new Pocketgloss();
        for (int number = 0; number < 8; number++) {
            phrase(y, 1, number);
        }
        tell(y, 2, 3, 4, 5, 6, 7);
        is("six of them", y.newEntries(1), 6);
        y.learn(1, 7);
        is("five of them", y.newEntries(1), 5);
    }

    private static void learn() {
        Pocketgloss x = new Pocketgloss();
        fails("learn(3, 0)", INDEX, () -> x.learn(3, 0));
        fails("learn(0, 0)", ELEMENT, () -> x.learn(0, 0));
        for (int number = 0; number < 8; number++) {
            x.addSplit(1, 2, 0, 1);
        }
        for (int bad : OUTSIDE) {
            failsIdly(x, "learn(" + bad + ", 0)", INDEX, () -> x.learn(bad, 0));
            failsIdly(x, "learn(0, " + bad + ")", ELEMENT, () -> x.learn(0, bad));
            failsIdly(x, "learn(bad, bad)", INDEX, () -> x.learn(bad, bad));
        }
        failsIdly(x, "learn(-1, 0)", INDEX, () -> x.learn(-1, 0));
        failsIdly(x, "learn(0, -1)", ELEMENT, () -> x.learn(0, -1));
        failsIdly(x, "learn(0, 8)", ELEMENT, () -> x.learn(0, 8));
        for (int entry = 7; entry >= 0; entry--) {
            is("learn(1, " + entry + ")", x.learn(1, entry), 8 - entry);
        }
        is("learn(2, 3), of another reader", x.learn(2, 3), 1);
        failsIdly(x, "learn(1, 3) again", STATE, () -> x.learn(1, 3));
        is("due(1), not today", x.due(1), 0);
        fails("review(1, 3, true) today", STATE, () -> x.review(1, 3, true));
        x.pass(1);
        is("due(1), tomorrow", x.due(1), 8);
        is("due(2), tomorrow", x.due(2), 1);
        is("review(1, 3, true), from the interval 1", x.review(1, 3, true), 2);
        failsIdly(x, "learn(1, 3) later", STATE, () -> x.learn(1, 3));
        x.takeOut(3);
        failsIdly(x, "learn(1, 3) of none", ELEMENT, () -> x.learn(1, 3));
        is("learn(0, 4)", x.learn(0, 4), 1);
        is("due(0)", x.due(0), 0);
        x.pass(1);
        is("due(0), on the day after its learning", x.due(0), 1);
    }

    private static void review() {
        Pocketgloss x = new Pocketgloss();
        phrase(x, 1, 1);
        phrase(x, 1, 2);
        x.learn(0, 0);
        for (int bad : OUTSIDE) {
            failsIdly(x, "review(" + bad + ", 0)", INDEX, () -> x.review(bad, 0, true));
            failsIdly(x, "review(0, " + bad + ")", ELEMENT, () -> x.review(0, bad, true));
            failsIdly(x, "review(bad, bad)", INDEX, () -> x.review(bad, bad, false));
        }
        failsIdly(x, "review(-1, 0)", INDEX, () -> x.review(-1, 0, true));
        failsIdly(x, "review(3, 0)", INDEX, () -> x.review(3, 0, true));
        failsIdly(x, "review(0, 2)", ELEMENT, () -> x.review(0, 2, true));
        failsIdly(x, "review(0, 0) on its first day", STATE, () -> x.review(0, 0, false));
        failsIdly(x, "review(0, 1) without a card", STATE, () -> x.review(0, 1, true));
        int interval = 1;
        for (int round = 0; round < 8; round++) {
            if (interval > 1) {
                x.pass(interval - 1);
                failsIdly(x, "review a day early", STATE, () -> x.review(0, 0, true));
            }
            x.pass(1);
            interval = Math.min(64, 2 * interval);
            is("review(0, 0, true)", x.review(0, 0, true), interval);
            failsIdly(x, "review again on the day", STATE, () -> x.review(0, 0, true));
        }
        x.pass(64);
        is("review(0, 0, false)", x.review(0, 0, false), 1);
        failsIdly(x, "review on the day", STATE, () -> x.review(0, 0, true));
        x.pass(9);
        is("review a week late", x.review(0, 0, true), 2);
        x.pass(1);
        failsIdly(x, "counted from the day of review", STATE, () -> x.review(0, 0, true));
        x.pass(1);
        is("review(0, 0, true)", x.review(0, 0, true), 4);
        failsIdly(x, "review(1, 0) of another reader", STATE, () -> x.review(1, 0, true));
    }

    private static void knows() {
        Pocketgloss x = new Pocketgloss();
        phrase(x, 1, 1);
        phrase(x, 1, 2);
        for (int bad : OUTSIDE) {
            fails("knows(" + bad + ", 0)", INDEX, () -> x.knows(bad, 0) ? 1 : 0);
            fails("knows(0, " + bad + ")", ELEMENT, () -> x.knows(0, bad) ? 1 : 0);
            fails("knows(bad, bad)", INDEX, () -> x.knows(bad, bad) ? 1 : 0);
        }
        fails("knows(-1, 0)", INDEX, () -> x.knows(-1, 0) ? 1 : 0);
        fails("knows(3, 0)", INDEX, () -> x.knows(3, 0) ? 1 : 0);
        fails("knows(0, 2)", ELEMENT, () -> x.knows(0, 2) ? 1 : 0);
        is("knows(0, 0) without a card", x.knows(0, 0), false);
        x.learn(0, 0);
        for (int interval = 2; interval <= 64; interval *= 2) {
            is("knows(0, 0) before " + interval, x.knows(0, 0), interval > 8);
            x.pass(interval / 2);
            x.review(0, 0, true);
            is("knows(0, 0) at " + interval, x.knows(0, 0), interval >= 8);
        }
        is("knows(1, 0), of another reader", x.knows(1, 0), false);
        is("knows(0, 1), of another entry", x.knows(0, 1), false);
        x.pass(100);
        is("knows(0, 0), though it is due", x.knows(0, 0), true);
        x.review(0, 0, false);
        is("knows(0, 0) after a failing", x.knows(0, 0), false);
        x.takeOut(0);
        fails("knows(0, 0) when it is out", ELEMENT, () -> x.knows(0, 0) ? 1 : 0);
    }

    private static void due() {
        Pocketgloss x = new Pocketgloss();
        for (int bad : OUTSIDE) {
            fails("due(" + bad + ")", INDEX, () -> x.due(bad));
        }
        fails("due(-1)", INDEX, () -> x.due(-1));
        fails("due(3)", INDEX, () -> x.due(3));
        for (int number = 0; number < 8; number++) {
            x.addSplit(1, 2, 0, 1);
        }
        x.learn(2, 0);
        x.learn(2, 7);
        is("due(2)", x.due(2), 0);
        x.pass(1);
        is("due(2), today", x.due(2), 2);
        x.learn(2, 3);
        is("due(2), not the new one", x.due(2), 2);
        x.pass(50);
        is("due(2), long ago", x.due(2), 3);
        x.review(2, 0, true);
        is("due(2), after a review", x.due(2), 2);
        x.takeOut(7);
        is("due(2), without the one taken out", x.due(2), 1);
        is("due(0), of another reader", x.due(0), 0);
        x.pass(1);
        is("due(2)", x.due(2), 1);
        x.pass(1);
        is("due(2)", x.due(2), 2);
    }

    private static void nextDue() {
        Pocketgloss x = new Pocketgloss();
        for (int bad : OUTSIDE) {
            fails("nextDue(" + bad + ")", INDEX, () -> x.nextDue(bad));
        }
        fails("nextDue(-1)", INDEX, () -> x.nextDue(-1));
        fails("nextDue(3)", INDEX, () -> x.nextDue(3));
        for (int number = 0; number < 8; number++) {
            x.addSplit(1, 2, 0, 1);
        }
        is("nextDue(0) without cards", x.nextDue(0), NONE);
        x.learn(0, 7);
        is("nextDue(0), though it is not yet due", x.nextDue(0), 7);
        x.learn(0, 4);
        is("nextDue(0), the lowest number", x.nextDue(0), 4);
        x.pass(1);
        x.learn(0, 1);
        is("nextDue(0), the earlier day", x.nextDue(0), 4);
        x.review(0, 4, true);
        is("nextDue(0)", x.nextDue(0), 7);
        x.review(0, 7, false);
        is("nextDue(0), the lowest of that day", x.nextDue(0), 1);
        x.takeOut(1);
        is("nextDue(0)", x.nextDue(0), 7);
        x.takeOut(7);
        is("nextDue(0)", x.nextDue(0), 4);
        is("nextDue(1), of another reader", x.nextDue(1), NONE);
        x.takeOut(4);
        is("nextDue(0), the last being out", x.nextDue(0), NONE);
    }

    private static void pass() {
        Pocketgloss x = new Pocketgloss();
        phrase(x, 1, 1);
        x.learn(0, 0);
        for (int bad : OUTSIDE) {
            failsIdly(x, "pass(" + bad + ")", ARGUMENT, () -> x.pass(bad));
        }
        failsIdly(x, "pass(-1)", ARGUMENT, () -> x.pass(-1));
        failsIdly(x, "pass(0)", ARGUMENT, () -> x.pass(0));
        failsIdly(x, "pass(101)", ARGUMENT, () -> x.pass(101));
        is("pass(1)", x.pass(1), 1);
        is("pass(100)", x.pass(100), 101);
        is("pass(2)", x.pass(2), 103);
        fails("pass(101)", ARGUMENT, () -> x.pass(101));
        is("pass(1)", x.pass(1), 104);
        Pocketgloss y = new Pocketgloss();
        for (int call = 1; call <= 510; call++) {
            is("pass(100)", y.pass(100), 100L * call);
        }
    }

    /** The dearest sentence: all of its covers are tried, over half a million. */
    private static void manyCovers() {
        Pocketgloss x = new Pocketgloss();
        for (int number = 0; number < 8; number++) {
            phrase(x, 20 - number, 1);
        }
        tell(x, 1, 1, 1, 1, 1, 1);
        x.setBare(50);
        costs(x, 78);
        glosses(x, 7, 7, 7, 7, 7, 7);
        places(x, 1, 2, 4, 8, 16, 32);
    }

    public static void main(String[] args) {
        about("promise 1");
        newObject();
        about("promise 2");
        addRule();
        about("promise 3");
        headwords();
        about("promise 4");
        isForm();
        about("promise 5");
        part();
        about("promise 6");
        addPhrase();
        about("promise 7");
        addSplit();
        about("promise 8");
        takeOut();
        about("promise 9");
        entries();
        about("promise 10");
        say();
        about("promise 11");
        clear();
        about("promise 12");
        setBare();
        about("promise 13");
        standings();
        standingsByForms();
        about("promises 14 and 15");
        cost();
        costByCover();
        manyCovers();
        about("promises 13 to 18");
        askedFirst();
        about("promise 16");
        glossAt();
        glossOfEquals();
        about("promise 17");
        placesAt();
        about("promise 18");
        newEntries();
        about("promise 19");
        learn();
        about("promise 20");
        review();
        about("promise 21");
        knows();
        about("promise 22");
        due();
        about("promise 23");
        nextDue();
        about("promise 24");
        pass();
        end("of the promises");
    }
}
