import java.io.IOException;
import java.lang.reflect.Constructor;
import java.lang.reflect.Field;
import java.lang.reflect.Method;
import java.lang.reflect.Modifier;
import java.nio.file.Files;
import java.nio.file.Path;
import java.util.ArrayList;
import java.util.List;
import java.util.Set;
import java.util.TreeSet;
import java.util.regex.Matcher;
import java.util.regex.Pattern;

/** The class has the document's face, under its headings, and no other member to be seen. */
public final class PocketglossFace {
    private static final String STATE = "java.lang.IllegalStateException";
    private static final String ARGUMENT = "java.lang.IllegalArgumentException";
    private static final String INDEX = "java.lang.IndexOutOfBoundsException";
    private static final String ELEMENT = "java.util.NoSuchElementException";

    private static int wrong = 0;

    private static void same(String what, Set<String> got, Set<String> want) {
        if (!got.equals(want)) {
            wrong++;
            System.out.println(what + ": " + got + ", due is " + want);
        }
    }

    private static void holds(String what, boolean fine) {
        if (!fine) {
            wrong++;
            System.out.println("it does not hold that " + what);
        }
    }

    private static String text(Method method) {
        StringBuilder all = new StringBuilder();
        all.append(method.getReturnType().getName()).append(' ').append(method.getName());
        for (Class<?> type : method.getParameterTypes()) {
            all.append(' ').append(type.getName());
        }
        for (Class<?> type : method.getExceptionTypes()) {
            all.append(" ! ").append(type.getName());
        }
        return all.toString();
    }

    private static Set<String> face() {
        String one = " ! " + INDEX;
        String[] rows = {
            "int addRule int int ! " + ARGUMENT + " ! " + STATE,
            "int headwords int" + one,
            "boolean isForm int int" + one,
            "int part int" + one + " ! " + STATE,
            "int addPhrase int ! " + ARGUMENT + " ! " + STATE,
            "int addSplit int int int int" + one + " ! " + ARGUMENT + " ! " + STATE,
            "int takeOut int ! " + ELEMENT,
            "int entries",
            "int say int" + one + " ! " + STATE,
            "int clear",
            "int setBare int ! " + ARGUMENT,
            "int standings",
            "int cost",
            "int costByAll",
            "int glossAt int" + one,
            "int placesAt int" + one,
            "int newEntries int" + one,
            "int learn int int" + one + " ! " + ELEMENT + " ! " + STATE,
            "int review int int boolean" + one + " ! " + ELEMENT + " ! " + STATE,
            "boolean knows int int" + one + " ! " + ELEMENT,
            "int due int" + one,
            "int nextDue int" + one,
            "int pass int ! " + ARGUMENT,
        };
        return new TreeSet<>(Set.of(rows));
    }

    private static void checkMethods(Class<?> type) {
        Set<String> seen = new TreeSet<>();
        Set<String> names = new TreeSet<>();
        for (Method method : type.getDeclaredMethods()) {
            if (!Modifier.isPrivate(method.getModifiers())) {
                holds(method + " is public", Modifier.isPublic(method.getModifiers()));
                holds(method + " is of the object", !Modifier.isStatic(method.getModifiers()));
                seen.add(text(method));
                names.add(method.getName());
            }
        }
        same("the methods", seen, face());
        checkOtherNames(type, names);
        for (Class<?> inside : type.getDeclaredClasses()) {
            checkOtherNames(inside, names);
        }
    }

    private static void checkOtherNames(Class<?> type, Set<String> names) {
        for (Method method : type.getDeclaredMethods()) {
            boolean isPublic = Modifier.isPublic(method.getModifiers());
            holds(method + " has a name of its own", isPublic || !names.contains(method.getName()));
        }
    }

    private static void checkFields(Class<?> type) throws IllegalAccessException {
        Set<String> seen = new TreeSet<>();
        for (Field field : type.getDeclaredFields()) {
            int bits = field.getModifiers();
            if (!Modifier.isPrivate(bits)) {
                seen.add(Modifier.toString(bits) + " " + field.getType() + " " + field.getName());
            }
            holds(field + " is no state of the class",
                    !Modifier.isStatic(bits) || Modifier.isFinal(bits));
        }
        same("the constants", seen, Set.of("public static final int NONE"));
        holds("NONE is -1", Pocketgloss.NONE == -1);
    }

    private static void checkClass(Class<?> type) {
        holds("the class is public and final",
                Modifier.isPublic(type.getModifiers()) && Modifier.isFinal(type.getModifiers()));
        holds("the class has no package", type.getPackageName().isEmpty());
        holds("the class is below Object", type.getSuperclass() == Object.class);
        holds("there are few classes", type.getDeclaredClasses().length <= 12);
        Constructor<?>[] made = type.getDeclaredConstructors();
        holds("there is one constructor, public and without parameters", made.length == 1
                && Modifier.isPublic(made[0].getModifiers()) && made[0].getParameterCount() == 0);
        for (Class<?> inside : type.getDeclaredClasses()) {
            holds(inside + " is private", Modifier.isPrivate(inside.getModifiers()));
            holds(inside + " is static", Modifier.isStatic(inside.getModifiers()));
        }
    }

    /** "Ahead of the calls .. the interface says: ---- ..": promises 1 to 24 in their order. */
    private static void checkHeadings() throws IOException {
        Pattern line = Pattern.compile("    (?:// (----.*)|public (?:int |boolean )?(\\w+)\\(.*)");
        List<String> seen = new ArrayList<>();
        for (String text : Files.readAllLines(Path.of("src/main/java/Pocketgloss.java"))) {
            Matcher found = line.matcher(text);
            if (found.matches()) {
                seen.add(found.group(1) != null ? found.group(1) : found.group(2));
            }
        }
        List<String> due = List.of(
                "Pocketgloss",
                "---- rules and forms", "addRule", "headwords", "isForm",
                "---- entries", "part", "addPhrase", "addSplit", "takeOut", "entries",
                "---- the sentence and its covers", "say", "clear", "setBare", "standings", "cost",
                "costByAll", "glossAt", "placesAt",
                "---- readers, cards and days", "newEntries", "learn", "review", "knows", "due",
                "nextDue", "pass");
        List<String> first = seen.subList(0, Math.min(due.size(), seen.size()));
        holds("the calls are in order under their headings, but " + seen, first.equals(due));
    }

    public static void main(String[] args) throws IllegalAccessException, IOException {
        checkClass(Pocketgloss.class);
        checkMethods(Pocketgloss.class);
        checkFields(Pocketgloss.class);
        checkHeadings();
        System.out.println("the face of the class, " + wrong + " wrong");
        if (wrong != 0) {
            System.exit(1);
        }
    }
}
