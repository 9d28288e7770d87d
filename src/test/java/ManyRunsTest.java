import java.lang.reflect.InvocationTargetException;
import java.lang.reflect.Method;
import java.util.HashMap;
import java.util.Map;

/** Long runs of calls with all kinds of arguments, each answer compared with that of the model. */
public final class ManyRunsTest {
    private static final int RUNS = 1000;
    private static final int CALLS = 512;

    /**
     * Each method with its arguments: s sign, b boolean, o orthography, w word, r rule, y year,
     * i index, h house, e reader, t state, d decree, p place, k school, g origin, f origin of a
     * rule, u use, c copies, n years of grace, l orthography or none.
     */
    private static final String[] ALL = {
        "type s", "clear", "word gub", "rule pf", "force orb", "clash rr", "except wo",
        "letters wo", "letterAt woi", "ruleOf woi", "used ro", "readings o", "readingAt oi",
        "convert oo", "signAt i", "homographs o", "lost oo", "rank wo", "moved oo", "breaks wo",
        "breakAt woi", "score ko", "cost oo", "vote trb", "bar trb", "draft or", "hear o",
        "draftAt oi", "decree yo", "strike db", "setGrace n", "right y", "borne y", "keep hl",
        "judge wyh", "reader", "learn eo", "write ew", "mistakes ey", "print hoc", "sell hc",
        "pulp hy", "collect wy", "adoption oy", "checksum o", "soundShare o", "meanLetters o",
        "isSound"};
    /** Those that make up a language are called more often. */
    private static final String[] BUILDING = {
        "word gub", "word gub", "rule pf", "rule pf", "force orb", "force orb", "force orb",
        "except wo", "vote trb", "vote trb", "vote trb", "vote trb", "draft or", "hear o",
        "decree yo", "learn eo", "write ew", "print hoc", "collect wy"};
    private static final String READ = " readings readingAt convert judge collect ";

    private static final Map<String, Method> OURS = methods(Spellreform.class);
    private static final Map<String, Method> MODELS = methods(Model.class);
    private static final Map<String, Integer> ANSWERED = new HashMap<>();
    private static final Map<String, Integer> THROWN = new HashMap<>();

    private final Spellreform x = new Spellreform();
    private final Model model = new Model();
    private final StringBuilder story = new StringBuilder();
    private long seed;
    private int calls;

    private ManyRunsTest(long seed) {
        this.seed = seed;
    }

    public static void main(String[] args) {
        for (int run = 0; run < RUNS; run++) {
            ManyRunsTest test = new ManyRunsTest(run * 7919L + 17);
            boolean isRight = test.run();
            Check.is("run " + run, isRight, true);
            if (!isRight) {
                System.out.println(test.story);
                break;
            }
        }
        // A run that never comes to answers, or to exceptions, would prove little.
        for (String spec : ALL) {
            String name = spec.split(" ")[0];
            Check.is(name + " has answered", ANSWERED.getOrDefault(name, 0) > 100, true);
            boolean neverThrows = name.equals("clear") || name.equals("isSound");
            Check.is(name + " has thrown", THROWN.getOrDefault(name, 0) > 20, !neverThrows);
        }
        Check.end("ManyRunsTest");
    }

    private static Map<String, Method> methods(Class<?> from) {
        Map<String, Method> found = new HashMap<>();
        for (Method method : from.getDeclaredMethods()) {
            if (!java.lang.reflect.Modifier.isPrivate(method.getModifiers())) {
                found.put(method.getName(), method);
            }
        }
        return found;
    }

    private boolean run() {
        // One method is called often in a run, so that the limits are met, too.
        String favourite = ALL[pick(ALL.length)];
        while (calls < CALLS) {
            String[] parts = nextSpec(favourite).split(" ");
            if (!prepare(parts[0]) || !agree(parts[0], parts.length > 1 ? parts[1] : "")) {
                return false;
            }
        }
        return true;
    }

    private String nextSpec(String favourite) {
        switch (pick(6)) {
            case 0: return favourite;
            case 1: case 2: return BUILDING[pick(BUILDING.length)];
            default: return ALL[pick(ALL.length)];
        }
    }

    private boolean agree(String name, String kinds) {
        Object[] arguments = new Object[kinds.length()];
        for (int i = 0; i < arguments.length; i++) {
            arguments[i] = argument(kinds.charAt(i));
        }
        return agree(name, arguments);
    }

    private boolean agree(String name, Object... arguments) {
        calls++;
        String got = answer(OURS.get(name), x, arguments);
        String due = answer(MODELS.get(name), model, arguments);
        story.append(name).append(java.util.Arrays.toString(arguments)).append(" answered ")
                .append(got).append(", due is ").append(due).append('\n');
        (got.startsWith("throws") ? THROWN : ANSWERED).merge(name, 1, Integer::sum);
        return got.equals(due);
    }

    private static String answer(Method method, Object of, Object[] arguments) {
        try {
            return String.valueOf(method.invoke(of, arguments));
        } catch (InvocationTargetException e) {
            boolean isOurs = of instanceof Spellreform;
            String thrown = "throws " + e.getCause().getClass().getName();
            return isOurs && !Check.isThrownByProgram(e.getCause()) ? thrown + " elsewhere" : thrown;
        } catch (IllegalAccessException e) {
            throw new IllegalStateException(e);
        }
    }

    /** Mostly puts something into the buffer that the call can use. */
    private boolean prepare(String name) {
        if (pick(8) == 0) {
            return true;
        }
        switch (name) {
            case "word":
                return typed(parts(1 + pick(4), pick(9) == 0 ? 7 : 4, pick(40) == 0));
            case "rule":
                return typed(parts(1, 3, false) + "-" + parts(1, pick(20) == 0 ? 4 : 3, false));
            case "except":
                return typed(pick(4) == 0 ? "" : parts(1, pick(9) == 0 ? 18 : 5, false));
            default:
                return !READ.contains(" " + name + " ") || pick(4) == 0
                        || agree("write", 0, pick(6));
        }
    }

    private String parts(int number, int most, boolean endsBadly) {
        StringBuilder text = new StringBuilder();
        for (int part = 0; part < number; part++) {
            text.append(part > 0 ? "-" : "");
            for (int i = 1 + pick(most); i > 0; i--) {
                text.append("ttddaaeei".charAt(pick(9)));
            }
        }
        return text.append(endsBadly ? "-" : "").toString();
    }

    private boolean typed(String text) {
        boolean isRight = agree("clear");
        for (int i = 0; i < text.length() && isRight; i++) {
            isRight = agree("type", text.charAt(i));
        }
        return isRight;
    }

    private Object argument(char kind) {
        switch (kind) {
            case 's': return "abdetiz-A~{`".charAt(pick(12));
            case 'b': return pick(4) != 0;
            case 'p': return "abevabevabevaaaax".charAt(pick(17));
            case 'k': return "sthsthx".charAt(pick(7));
            case 'w': return number(0, 7);
            case 'r': return number(0, 9);
            case 'y': return pick(5) == 0 ? number(0, 9999) : number(0, 12);
            case 'i': return pick(2) == 0 ? number(0, 14) : number(0, 2);
            case 'h': return pick(2) == 0 ? number(0, 7) : number(0, 1);
            case 'e': return number(0, 2);
            case 't': return number(0, 5);
            case 'd': return number(0, 5);
            case 'g': return number(0, 4);
            case 'f': return pick(2) == 0 ? -1 : number(-1, 4);
            case 'u': return pick(2) == 0 ? number(1, 120) : number(1, 999);
            case 'c': return pick(3) == 0 ? number(1, 9999) : number(1, 90);
            case 'n': return pick(4) == 0 ? number(0, 99) : number(0, 8);
            case 'l': return pick(2) == 0 ? -1 : number(-1, 3);
            default: return number(0, 3);
        }
    }

    /** Mostly a number of the range, sometimes one just outside, now and then a wild one. */
    private int number(int from, int to) {
        int chance = pick(60);
        if (chance == 0) {
            int[] wild = {Integer.MIN_VALUE, Integer.MAX_VALUE, -2, 100, 1 << 16};
            return wild[pick(wild.length)];
        }
        return chance == 1 ? from - 1 : chance == 2 ? to + 1 : from + pick(to - from + 1);
    }

    private int pick(int bound) {
        seed = seed * 6364136223846793005L + 1442695040888963407L;
        return (int) Math.floorMod(seed >> 33, (long) bound);
    }
}
