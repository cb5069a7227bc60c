/** Promises 19 to 24: each boundary that the document names, just inside it and just outside. */
public final class PocketglossEdgesOfCards extends Checks {
    private static Pocketgloss withEntries(int count) {
        Pocketgloss x = new Pocketgloss();
        for (int number = 0; number < count; number++) {
            phrase(x, 1, number);
        }
        return x;
    }

    /** Reviews reader 0's card for entry 0 well on each day that it is due, up to an interval. */
    private static Pocketgloss withInterval(int interval) {
        Pocketgloss x = withEntries(2);
        x.learn(0, 0);
        for (int before = 1; before < interval; before *= 2) {
            x.pass(before);
            x.review(0, 0, true);
        }
        return x;
    }

    // ---- promise 19: learn

    private static void promise19ReaderIs0To2() {
        Pocketgloss x = withEntries(1);
        for (int reader = 0; reader <= 2; reader++) {
            is("learn(" + reader + ", 0)", x.learn(reader, 0), 1);
        }
        fails("learn(-1, 0)", INDEX, () -> x.learn(-1, 0));
        fails("learn(3, 0)", INDEX, () -> x.learn(3, 0));
    }

    private static void promise19OnlyAnEntryThatIsThere() {
        Pocketgloss x = new Pocketgloss();
        fails("learn(0, 0) before it is made", ELEMENT, () -> x.learn(0, 0));
        phrase(x, 1, 1);
        fails("learn(0, -1)", ELEMENT, () -> x.learn(0, -1));
        fails("learn(0, 1)", ELEMENT, () -> x.learn(0, 1));
        is("learn(0, 0)", x.learn(0, 0), 1);
        x.takeOut(0);
        fails("learn(0, 0) when it is out", ELEMENT, () -> x.learn(0, 0));
        fails("learn(1, 0) when it is out", ELEMENT, () -> x.learn(1, 0));
        Pocketgloss y = withEntries(8);
        is("learn(0, 7)", y.learn(0, 7), 1);
        fails("learn(0, 8)", ELEMENT, () -> y.learn(0, 8));
    }

    private static void promise19From1To8Cards() {
        Pocketgloss x = withEntries(8);
        for (int entry = 0; entry < 8; entry++) {
            is("learn(1, " + entry + ")", x.learn(1, entry), entry + 1);
        }
        x.takeOut(3);
        is("learn(2, 7), another reader's first", x.learn(2, 7), 1);
        Pocketgloss y = withEntries(8);
        y.learn(0, 0);
        y.learn(0, 1);
        y.takeOut(0);
        is("learn(0, 2), one being gone", y.learn(0, 2), 2);
    }

    private static void promise19NoSecondCard() {
        Pocketgloss x = withEntries(1);
        x.learn(0, 0);
        fails("learn(0, 0) again", STATE, () -> x.learn(0, 0));
        x.pass(1);
        fails("learn(0, 0) when it is due", STATE, () -> x.learn(0, 0));
        x.review(0, 0, false);
        fails("learn(0, 0) after a failing", STATE, () -> x.learn(0, 0));
        is("learn(1, 0), another reader's", x.learn(1, 0), 1);
    }

    private static void promise19DueOnTheNextDay() {
        for (int day : new int[] {0, 1, 99}) {
            Pocketgloss x = withEntries(1);
            if (day > 0) {
                x.pass(day);
            }
            x.learn(0, 0);
            is("due(0) on the same day", x.due(0), 0);
            fails("review(0, 0, true) on the same day", STATE, () -> x.review(0, 0, true));
            x.pass(1);
            is("due(0) on the next day", x.due(0), 1);
            is("review(0, 0, true) on the next day", x.review(0, 0, true), 2);
        }
    }

    // ---- promise 20: review

    private static void promise20ReaderIs0To2() {
        Pocketgloss x = withEntries(1);
        for (int reader = 0; reader <= 2; reader++) {
            x.learn(reader, 0);
        }
        x.pass(1);
        fails("review(-1, 0, true)", INDEX, () -> x.review(-1, 0, true));
        fails("review(3, 0, true)", INDEX, () -> x.review(3, 0, true));
        for (int reader = 0; reader <= 2; reader++) {
            is("review(" + reader + ", 0, true)", x.review(reader, 0, true), 2);
        }
    }

    private static void promise20OnlyAnEntryThatIsThere() {
        Pocketgloss x = withEntries(8);
        x.learn(0, 0);
        x.learn(0, 7);
        x.pass(1);
        fails("review(0, -1, true)", ELEMENT, () -> x.review(0, -1, true));
        fails("review(0, 8, true)", ELEMENT, () -> x.review(0, 8, true));
        is("review(0, 7, true)", x.review(0, 7, true), 2);
        x.takeOut(0);
        fails("review(0, 0, true) when it is out", ELEMENT, () -> x.review(0, 0, true));
    }

    private static void promise20OnTheDayItIsDueNotTheDayBefore() {
        for (int interval = 1; interval <= 64; interval *= 2) {
            Pocketgloss x = withInterval(interval);
            fails("review on the day of the review", STATE, () -> x.review(0, 0, true));
            if (interval > 1) {
                x.pass(interval - 1);
            }
            fails("review on the day before", STATE, () -> x.review(0, 0, true));
            fails("review(.., false) on the day before", STATE, () -> x.review(0, 0, false));
            x.pass(1);
            is("review on the day", x.review(0, 0, true), Math.min(64, 2 * interval));
        }
    }

    private static void promise20IntervalIsAtMost64() {
        Pocketgloss x = withInterval(32);
        x.pass(32);
        is("review at 32", x.review(0, 0, true), 64);
        x.pass(64);
        is("review at 64", x.review(0, 0, true), 64);
        x.pass(63);
        fails("review 63 days later", STATE, () -> x.review(0, 0, true));
        x.pass(1);
        is("review at 64 again", x.review(0, 0, true), 64);
    }

    private static void promise20AFailingMakesIt1() {
        for (int interval = 1; interval <= 64; interval *= 2) {
            Pocketgloss x = withInterval(interval);
            x.pass(interval);
            is("review(0, 0, false) at " + interval, x.review(0, 0, false), 1);
            fails("review on the same day", STATE, () -> x.review(0, 0, true));
            x.pass(1);
            is("review on the next day", x.review(0, 0, true), 2);
        }
    }

    private static void promise20CountedFromToday() {
        Pocketgloss x = withEntries(1);
        x.learn(0, 0);
        x.pass(100);
        is("review 99 days late", x.review(0, 0, true), 2);
        x.pass(1);
        fails("review one day later", STATE, () -> x.review(0, 0, true));
        x.pass(1);
        is("review two days later", x.review(0, 0, true), 4);
        x.pass(3);
        fails("review three days later", STATE, () -> x.review(0, 0, true));
        x.pass(2);
        is("review a day late", x.review(0, 0, true), 8);
    }

    private static void promise20WithoutACard() {
        Pocketgloss x = withEntries(2);
        x.pass(100);
        fails("review(0, 0, true)", STATE, () -> x.review(0, 0, true));
        x.learn(0, 0);
        x.pass(1);
        fails("review(1, 0, true), another reader's", STATE, () -> x.review(1, 0, true));
        fails("review(0, 1, true), another entry's", STATE, () -> x.review(0, 1, true));
        is("review(0, 0, true)", x.review(0, 0, true), 2);
    }

    private static void promise20OtherCardsStay() {
        Pocketgloss x = withEntries(2);
        x.learn(0, 0);
        x.learn(0, 1);
        x.learn(1, 0);
        x.pass(1);
        x.review(0, 0, true);
        is("due(0)", x.due(0), 1);
        is("due(1)", x.due(1), 1);
        is("review(0, 1, true)", x.review(0, 1, true), 2);
        is("review(1, 0, true)", x.review(1, 0, true), 2);
    }

    // ---- promise 21: knows

    private static void promise21FromAnIntervalOf8() {
        for (int interval = 1; interval <= 64; interval *= 2) {
            Pocketgloss x = withInterval(interval);
            is("knows(0, 0) at " + interval, x.knows(0, 0), interval >= 8);
            is("knows(1, 0) at " + interval, x.knows(1, 0), false);
            is("knows(0, 1) at " + interval, x.knows(0, 1), false);
        }
    }

    private static void promise21ReaderIs0To2() {
        Pocketgloss x = withEntries(1);
        for (int reader = 0; reader <= 2; reader++) {
            is("knows(" + reader + ", 0)", x.knows(reader, 0), false);
        }
        fails("knows(-1, 0)", INDEX, () -> x.knows(-1, 0) ? 1 : 0);
        fails("knows(3, 0)", INDEX, () -> x.knows(3, 0) ? 1 : 0);
    }

    private static void promise21OnlyAnEntryThatIsThere() {
        Pocketgloss x = withInterval(8);
        fails("knows(0, -1)", ELEMENT, () -> x.knows(0, -1) ? 1 : 0);
        fails("knows(0, 2)", ELEMENT, () -> x.knows(0, 2) ? 1 : 0);
        fails("knows(0, 8)", ELEMENT, () -> x.knows(0, 8) ? 1 : 0);
        x.takeOut(0);
        fails("knows(0, 0) when it is out", ELEMENT, () -> x.knows(0, 0) ? 1 : 0);
        is("knows(0, 1)", x.knows(0, 1), false);
    }

    private static void promise21NoLongerAfterAFailing() {
        Pocketgloss x = withInterval(64);
        x.pass(100);
        is("knows(0, 0), long due", x.knows(0, 0), true);
        x.review(0, 0, false);
        is("knows(0, 0) after a failing", x.knows(0, 0), false);
    }

    // ---- promise 22: due

    private static void promise22ReaderIs0To2() {
        Pocketgloss x = withEntries(1);
        for (int reader = 0; reader <= 2; reader++) {
            x.learn(reader, 0);
        }
        x.pass(1);
        for (int reader = 0; reader <= 2; reader++) {
            is("due(" + reader + ")", x.due(reader), 1);
        }
        fails("due(-1)", INDEX, () -> x.due(-1));
        fails("due(3)", INDEX, () -> x.due(3));
    }

    private static void promise22TodayOrBeforeNotLater() {
        for (int interval = 2; interval <= 64; interval *= 2) {
            Pocketgloss x = withInterval(interval);
            x.pass(interval - 1);
            is("due(0) the day before", x.due(0), 0);
            x.pass(1);
            is("due(0) on the day", x.due(0), 1);
            x.pass(1);
            is("due(0) a day later", x.due(0), 1);
            x.pass(100);
            is("due(0) long after", x.due(0), 1);
        }
    }

    private static void promise22From0To8Cards() {
        Pocketgloss x = withEntries(8);
        is("due(0) without cards", x.due(0), 0);
        for (int entry = 0; entry < 8; entry++) {
            x.learn(0, entry);
            is("due(0)", x.due(0), entry);
            x.pass(1);
            is("due(0) a day later", x.due(0), entry + 1);
        }
        for (int entry = 0; entry < 4; entry++) {
            x.review(0, entry, true);
            is("due(0) after a review", x.due(0), 7 - entry);
        }
        for (int entry = 4; entry < 8; entry++) {
            x.takeOut(entry);
            is("due(0) without an entry", x.due(0), 7 - entry);
        }
    }

    // ---- promise 23: nextDue

    private static void promise23ReaderIs0To2() {
        Pocketgloss x = withEntries(3);
        for (int reader = 0; reader <= 2; reader++) {
            x.learn(reader, 2 - reader);
        }
        for (int reader = 0; reader <= 2; reader++) {
            is("nextDue(" + reader + ")", x.nextDue(reader), 2 - reader);
        }
        fails("nextDue(-1)", INDEX, () -> x.nextDue(-1));
        fails("nextDue(3)", INDEX, () -> x.nextDue(3));
    }

    private static void promise23NoneWithoutCards() {
        Pocketgloss x = withEntries(1);
        is("nextDue(0)", x.nextDue(0), NONE);
        x.learn(0, 0);
        is("nextDue(0)", x.nextDue(0), 0);
        is("nextDue(1)", x.nextDue(1), NONE);
        x.takeOut(0);
        is("nextDue(0) when it is out", x.nextDue(0), NONE);
    }

    private static void promise23TheLowestNumberOfTheSameDay() {
        Pocketgloss x = withEntries(8);
        for (int entry = 7; entry >= 0; entry--) {
            x.learn(0, entry);
            is("nextDue(0)", x.nextDue(0), entry);
        }
        for (int entry = 0; entry < 7; entry++) {
            x.takeOut(entry);
            is("nextDue(0)", x.nextDue(0), entry + 1);
        }
    }

    private static void promise23ADayEarlierGoesFirst() {
        Pocketgloss x = withEntries(8);
        x.learn(0, 7);
        x.pass(1);
        x.learn(0, 0);
        is("nextDue(0), due on day 1 and not 2", x.nextDue(0), 7);
        is("review(0, 7, false)", x.review(0, 7, false), 1);
        is("nextDue(0), both due on day 2", x.nextDue(0), 0);
        x.pass(1);
        is("review(0, 0, true)", x.review(0, 0, true), 2);
        is("nextDue(0), due on day 2 and not 4", x.nextDue(0), 7);
        is("review(0, 7, true)", x.review(0, 7, true), 2);
        is("nextDue(0), both due on day 4", x.nextDue(0), 0);
    }

    private static void promise23ThoughItIsDueLater() {
        Pocketgloss x = withInterval(64);
        is("nextDue(0), due in 64 days", x.nextDue(0), 0);
        is("due(0)", x.due(0), 0);
        x.pass(63);
        x.learn(0, 1);
        is("nextDue(0), both due on the next day", x.nextDue(0), 0);
        x.pass(100);
        is("nextDue(0), both due long ago", x.nextDue(0), 0);
    }

    // ---- promise 24: pass

    private static void promise24DaysIs1To100() {
        Pocketgloss x = new Pocketgloss();
        fails("pass(0)", ARGUMENT, () -> x.pass(0));
        fails("pass(101)", ARGUMENT, () -> x.pass(101));
        fails("pass(-1)", ARGUMENT, () -> x.pass(-1));
        is("pass(1)", x.pass(1), 1);
        is("pass(100)", x.pass(100), 101);
    }

    private static void promise24RefusedDaysDoNotPass() {
        Pocketgloss x = withEntries(1);
        x.learn(0, 0);
        fails("pass(101)", ARGUMENT, () -> x.pass(101));
        fails("pass(0)", ARGUMENT, () -> x.pass(0));
        is("due(0)", x.due(0), 0);
        is("pass(1)", x.pass(1), 1);
        is("due(0)", x.due(0), 1);
    }

    /** The document bounds an object's use at 512 calls: so many days can pass at most. */
    private static void promise24The512thCall() {
        Pocketgloss x = new Pocketgloss();
        for (int call = 1; call <= 512; call++) {
            is("pass(100), call " + call, x.pass(100), 100L * call);
        }
    }

    public static void main(String[] args) {
        eachOf(PocketglossEdgesOfCards.class, 19, 20, 21, 22, 23, 24);
        end("of the edges of cards");
    }
}
