import java.lang.reflect.Method;
import java.lang.reflect.Modifier;
import java.util.Set;
import java.util.TreeSet;
import java.util.function.Supplier;

/** Refused calls: which exception each of them throws, and that it changes nothing. */
final class Refusals {
    interface Deed {
        long on(Spellreform x);
    }

    private static final Set<String> SEEN = new TreeSet<>();

    private Refusals() {
    }

    /**
     * Expects the exception, and that the object tells the same behind the call as another one
     * that was made alike and has not been called.
     */
    static void check(String method, String what, Class<?> due, Supplier<Spellreform> making, Deed deed) {
        SEEN.add(method + " " + due.getSimpleName());
        Spellreform x = making.get();
        Check.fails(method + ", " + what, due, () -> deed.on(x));
        String[] got = Probe.story(x).split("\n");
        String[] want = Probe.story(making.get()).split("\n");
        for (int i = 0; i < want.length; i++) {
            if (i >= got.length || !got[i].equals(want[i])) {
                Check.fail(method + ", " + what + " changed something: told \""
                        + (i < got.length ? got[i] : "nothing") + "\" for \"" + want[i] + "\"");
                return;
            }
        }
    }

    /** Each exception that a method of the face declares must have been seen. */
    static void allSeen() {
        Set<String> due = new TreeSet<>();
        for (Method method : Spellreform.class.getDeclaredMethods()) {
            if (Modifier.isPublic(method.getModifiers())) {
                for (Class<?> thrown : method.getExceptionTypes()) {
                    due.add(method.getName() + " " + thrown.getSimpleName());
                }
            }
        }
        Check.is("exceptions of the document", due.size(), 90);
        Check.isText("exceptions seen", String.join("\n", SEEN), String.join("\n", due));
    }
}
