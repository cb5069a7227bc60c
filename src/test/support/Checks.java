import java.lang.reflect.Method;
import java.util.NoSuchElementException;
import java.util.TreeMap;

/** What the tests share: checks that are counted, and runs of calls that many of them need. */
abstract class Checks {
    static final int NONE = Pocketgloss.NONE;
    static final Class<?> INDEX = IndexOutOfBoundsException.class;
    static final Class<?> ARGUMENT = IllegalArgumentException.class;
    static final Class<?> STATE = IllegalStateException.class;
    static final Class<?> ELEMENT = NoSuchElementException.class;

    /** Numbers far outside every range of the document. */
    static final int[] OUTSIDE = {
        Integer.MIN_VALUE, -1_000_000, -3, -2, 1_000_000, Integer.MAX_VALUE
    };

    private static int wrong = 0;
    private static int checks = 0;
    private static String about = "";

    interface Call {
        long answer();
    }

    /** Tells what the checks are about that follow: a promise, or a test of it. */
    static void about(String what) {
        about = what;
    }

    /** Calls the tests of a class that are named promiseNN..., and looks that none is left out. */
    static void eachOf(Class<?> tests, int... promises) {
        TreeMap<String, Method> named = new TreeMap<>();
        for (Method method : tests.getDeclaredMethods()) {
            if (method.getName().startsWith("promise")) {
                named.put(method.getName(), method);
            }
        }
        for (Method test : named.values()) {
            about(test.getName());
            try {
                test.setAccessible(true);
                test.invoke(null);
            } catch (ReflectiveOperationException e) {
                check(false, "the test ended with " + e + " of " + e.getCause());
            }
        }
        about(tests.getName());
        for (int promise : promises) {
            String number = String.format("%02d", promise);
            boolean tested = named.keySet().stream().anyMatch(name -> name.contains(number));
            check(tested, "there is no test of promise " + promise);
        }
    }

    /** Prints how many checks there were, and ends with exit code 1 if one was wrong. */
    static void end(String title) {
        System.out.println(checks + " checks " + title + ", " + wrong + " wrong");
        if (wrong != 0 || checks == 0) {
            System.exit(1);
        }
    }

    private static void check(boolean right, String otherwise) {
        checks++;
        if (!right) {
            wrong++;
            System.out.println(about + ": " + otherwise);
        }
    }

    static void is(String call, long got, long want) {
        check(got == want, call + " answered " + got + ", due is " + want);
    }

    static void is(String call, boolean got, boolean want) {
        is(call, got ? 1 : 0, want ? 1 : 0);
    }

    static void is(String call, String got, String want) {
        check(got.equals(want), call + " answered " + got + ", due is " + want);
    }

    /** The class itself, not one below it: an ArrayIndexOutOfBoundsException is the machine's. */
    static void fails(String call, Class<?> want, Call made) {
        String got = outcome(made);
        check(got.equals(want.getName()), call + " answered " + got + ", due is " + want.getName());
    }

    /** Returns what a call answers, or the name of what it throws. */
    static String outcome(Call made) {
        try {
            return Long.toString(made.answer());
        } catch (RuntimeException e) {
            return e.getClass().getName();
        }
    }

    /** A throwing call that must leave all that can be asked as it was. */
    static void failsIdly(Pocketgloss x, String call, Class<?> want, Call made) {
        String before = look(x);
        fails(call, want, made);
        check(look(x).equals(before), call + " threw, but changed something");
    }

    /** All that can be asked of an object without changing it, in some 160 calls. */
    static String look(Pocketgloss x) {
        StringBuilder all = new StringBuilder("headwords");
        for (int word = 0; word < 100; word++) {
            all.append(' ').append(x.headwords(word));
        }
        all.append(", ").append(x.entries()).append(" entries, ");
        all.append(x.standings()).append(" standings, cost ");
        all.append(x.cost()).append(" and ").append(x.costByAll());
        for (int i = 0; i < 6; i++) {
            int place = i;
            all.append(", place ").append(outcome(() -> x.glossAt(place)));
            all.append(' ').append(outcome(() -> x.placesAt(place)));
        }
        for (int reader = 0; reader < 3; reader++) {
            all.append(", reader ").append(x.newEntries(reader)).append(' ').append(x.due(reader));
            all.append(' ').append(x.nextDue(reader));
            for (int entry = 0; entry < 8; entry++) {
                all.append(' ').append(knows(x, reader, entry));
            }
        }
        return all.toString();
    }

    private static String knows(Pocketgloss x, int reader, int entry) {
        return outcome(() -> x.knows(reader, entry) ? 1 : 0);
    }

    static void tell(Pocketgloss x, int... words) {
        x.clear();
        for (int word : words) {
            x.say(word);
        }
    }

    static int phrase(Pocketgloss x, int cost, int... parts) {
        for (int part : parts) {
            x.part(part);
        }
        return x.addPhrase(cost);
    }

    static void glosses(Pocketgloss x, int... want) {
        for (int place = 0; place < want.length; place++) {
            is("glossAt(" + place + ")", x.glossAt(place), want[place]);
        }
    }

    static void places(Pocketgloss x, int... want) {
        for (int place = 0; place < want.length; place++) {
            is("placesAt(" + place + ")", x.placesAt(place), want[place]);
        }
    }

    static void costs(Pocketgloss x, int want) {
        is("cost()", x.cost(), want);
        is("costByAll()", x.costByAll(), want);
    }
}
