import java.lang.reflect.InvocationTargetException;
import java.lang.reflect.Method;
import java.lang.reflect.Modifier;
import java.util.ArrayList;
import java.util.Arrays;
import java.util.HashSet;
import java.util.List;
import java.util.NoSuchElementException;
import java.util.Set;

/**
 * For each number that a call takes: the last value that it takes and the first that it refuses, on
 * both sides, and the farthest ones; and for two that are refused, which one is told.
 */
final class Ranges {
    /** What an argument may be, and what is thrown otherwise; due is null for one that is fixed. */
    private record Argument(Object lowest, Object highest, Class<?> due) {
        boolean isFixed() {
            return due == null;
        }

        List<Object> refused() {
            return List.of((Integer) lowest - 1, (Integer) highest + 1,
                    Integer.MIN_VALUE, Integer.MAX_VALUE);
        }
    }

    private static final Argument WORD = index(4);
    private static final Argument RULE = index(3);
    private static final Argument READER = index(1);
    private static final Argument ORTHOGRAPHY = range(0, 3);
    private static final Argument YEAR = range(0, 9999);
    private static final Argument HOUSE = range(0, 7);
    private static final Argument STATE = range(0, 5);
    private static final Argument COPIES = range(1, 9999);
    private static final Set<String> SEEN = new HashSet<>();

    private Ranges() {
    }

    private static Argument range(int lowest, int highest) {
        return new Argument(lowest, highest, IllegalArgumentException.class);
    }

    private static Argument index(int highest) {
        return new Argument(0, highest, IndexOutOfBoundsException.class);
    }

    private static Argument element(int highest) {
        return new Argument(0, highest, NoSuchElementException.class);
    }

    private static Argument fixed(Object value) {
        return new Argument(value, value, null);
    }

    /** All numbers of all methods, in an object as Example.rich makes it. */
    static void check() {
        wordsAndRules();
        spelling();
        goalsAndCommittees();
        decreesAndJudging();
        peopleAndBooks();
        for (String name : new String[] {"checksum", "soundShare", "meanLetters"}) {
            of(name, "", ORTHOGRAPHY);
        }
        allSeen();
    }

    private static void wordsAndRules() {
        of("word", "tat", range(0, 4), range(1, 999), fixed(true));
        of("word", "tat", range(0, 4), range(1, 999), fixed(false));
        for (char place : "abev".toCharArray()) {
            of("rule", "t-d", fixed(place), range(-1, 4));
        }
        of("force", "", ORTHOGRAPHY, RULE, fixed(false));
        of("force", "", ORTHOGRAPHY, RULE, fixed(true));
        of("clash", "", RULE, RULE);
        of("except", "", WORD, ORTHOGRAPHY);
        of("except", "qq", WORD, ORTHOGRAPHY);
    }

    private static void spelling() {
        of("letters", "", WORD, ORTHOGRAPHY);
        of("letterAt", "", WORD, ORTHOGRAPHY, element(4));
        of("ruleOf", "", WORD, ORTHOGRAPHY, element(4));
        of("used", "", RULE, ORTHOGRAPHY);
        of("readings", "oi", ORTHOGRAPHY);
        of("readingAt", "oi", ORTHOGRAPHY, element(1));
        of("convert", "oi", ORTHOGRAPHY, ORTHOGRAPHY);
        of("signAt", "oi", element(1));
        of("homographs", "", ORTHOGRAPHY);
        of("lost", "", ORTHOGRAPHY, ORTHOGRAPHY);
        of("rank", "", WORD, ORTHOGRAPHY);
        of("moved", "", ORTHOGRAPHY, ORTHOGRAPHY);
        of("breaks", "", WORD, ORTHOGRAPHY);
        of("breakAt", "", WORD, ORTHOGRAPHY, element(0));
    }

    private static void goalsAndCommittees() {
        for (char school : "sth".toCharArray()) {
            of("score", "", fixed(school), ORTHOGRAPHY);
        }
        of("cost", "", ORTHOGRAPHY, ORTHOGRAPHY);
        for (boolean isSo : new boolean[] {true, false}) {
            of("vote", "", STATE, RULE, fixed(isSo));
            of("bar", "", STATE, RULE, fixed(isSo));
        }
        of("draft", "", ORTHOGRAPHY, RULE);
        of("hear", "", ORTHOGRAPHY);
        of("draftAt", "", ORTHOGRAPHY, element(1));
    }

    private static void decreesAndJudging() {
        of("decree", "", YEAR, ORTHOGRAPHY);
        of("strike", "", index(1), fixed(true));
        of("strike", "", index(1), fixed(false));
        of("setGrace", "", range(0, 99));
        of("right", "", YEAR);
        of("borne", "", YEAR);
        of("keep", "", HOUSE, range(-1, 3));
        of("judge", "oi", WORD, YEAR, HOUSE);
    }

    private static void peopleAndBooks() {
        of("learn", "", READER, ORTHOGRAPHY);
        of("write", "", READER, WORD);
        of("mistakes", "", READER, YEAR);
        of("print", "", HOUSE, ORTHOGRAPHY, COPIES);
        of("sell", "", HOUSE, COPIES);
        of("pulp", "", HOUSE, YEAR);
        of("collect", "oi", WORD, YEAR);
        of("adoption", "", ORTHOGRAPHY, YEAR);
    }

    private static void of(String name, String buffer, Argument... arguments) {
        SEEN.add(name);
        Method method = method(name);
        Object[] good = Arrays.stream(arguments).map(Argument::lowest).toArray();
        for (int i = 0; i < arguments.length; i++) {
            if (!arguments[i].isFixed()) {
                taken(method, buffer, arguments[i], with(good, i, arguments[i].lowest()));
                taken(method, buffer, arguments[i], with(good, i, arguments[i].highest()));
                refused(method, buffer, arguments, good, i);
            }
        }
        throwsNoOther(method, arguments);
    }

    /** The other arguments are good ones; what is thrown for what comes behind them is no matter. */
    private static void taken(Method method, String buffer, Argument of, Object[] arguments) {
        Spellreform x = Example.rich(buffer);
        String what = method.getName() + Arrays.toString(arguments) + " is taken";
        try {
            call(method, x, arguments);
            Check.is(what, true, true);
        } catch (RuntimeException e) {
            Check.is(what + ", not " + e, place(method, e.getClass()) > place(method, of.due()), true);
        }
    }

    private static void refused(Method method, String buffer, Argument[] arguments, Object[] good, int i) {
        for (Object wrong : arguments[i].refused()) {
            Object[] one = with(good, i, wrong);
            refuses(method, buffer, one, arguments[i].due());
            for (int j = i + 1; j < arguments.length; j++) {
                for (Object other : arguments[j].isFixed() ? List.of() : arguments[j].refused()) {
                    Class<?> due = place(method, arguments[j].due()) < place(method, arguments[i].due())
                            ? arguments[j].due() : arguments[i].due();
                    refuses(method, buffer, with(one, j, other), due);
                }
            }
        }
    }

    private static void refuses(Method method, String buffer, Object[] arguments, Class<?> due) {
        Refusals.check(method.getName(), Arrays.toString(arguments) + " with \"" + buffer + "\"", due,
                () -> Example.rich(buffer), x -> call(method, x, arguments));
    }

    /** The place of an exception in the document's order. */
    private static int place(Method method, Class<?> thrown) {
        return Arrays.asList(method.getExceptionTypes()).indexOf(thrown);
    }

    private static void throwsNoOther(Method method, Argument[] arguments) {
        for (Argument argument : arguments) {
            Check.is(method.getName() + " tells of " + argument,
                    argument.isFixed() || place(method, argument.due()) >= 0, true);
        }
    }

    private static Object[] with(Object[] arguments, int index, Object value) {
        Object[] changed = arguments.clone();
        changed[index] = value;
        return changed;
    }

    private static Method method(String name) {
        for (Method method : Spellreform.class.getMethods()) {
            if (method.getName().equals(name)) {
                return method;
            }
        }
        throw new IllegalStateException(name);
    }

    private static long call(Method method, Spellreform x, Object[] arguments) {
        try {
            method.invoke(x, arguments);
            return 0;
        } catch (InvocationTargetException e) {
            if (e.getCause() instanceof RuntimeException) {
                throw (RuntimeException) e.getCause();
            }
            throw new IllegalStateException(e);
        } catch (IllegalAccessException e) {
            throw new IllegalStateException(e);
        }
    }

    /** Each method that takes a number must be among them. */
    private static void allSeen() {
        List<String> left = new ArrayList<>();
        for (Method method : Spellreform.class.getDeclaredMethods()) {
            if (Modifier.isPublic(method.getModifiers()) && !SEEN.contains(method.getName())
                    && Arrays.asList(method.getParameterTypes()).contains(int.class)) {
                left.add(method.getName());
            }
        }
        Check.isText("methods without ranges", String.join(" ", left), "");
    }
}
