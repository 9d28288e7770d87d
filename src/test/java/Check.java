/** What the tests share: comparing answers, expecting exceptions, typing texts. */
final class Check {
    interface Call {
        long answer();
    }

    private static int failures = 0;
    private static int checks = 0;
    private static String sentence = "";

    private Check() {
    }

    static void is(String what, long got, long want) {
        checks++;
        if (got != want) {
            fail(what + " answered " + got + ", due is " + want);
        }
    }

    static void is(String what, char got, char want) {
        is(what, (long) got, (long) want);
    }

    static void is(String what, boolean got, boolean want) {
        is(what, got ? 1L : 0L, want ? 1L : 0L);
    }

    static void isText(String what, String got, String want) {
        checks++;
        if (!got.equals(want)) {
            fail(what + " answered \"" + got + "\", due is \"" + want + "\"");
        }
    }

    static void isNumber(String what, double got, double want) {
        checks++;
        if (got != want) {
            fail(what + " answered " + got + ", due is " + want);
        }
    }

    /** The sentence that a failure is told with. */
    static void about(String told) {
        sentence = told.isEmpty() ? "" : "\"" + told + "\": ";
    }

    static void fail(String what) {
        failures++;
        System.out.println(sentence + what);
    }

    static void fails(String what, Class<?> due, Call call) {
        checks++;
        try {
            long got = call.answer();
            fail(what + " answered " + got + ", due is " + due.getSimpleName());
        } catch (RuntimeException e) {
            if (e.getClass() != due) {
                fail(what + " threw " + e + ", due is " + due.getSimpleName());
            }
            if (!isThrownByProgram(e)) {
                fail(what + " was thrown by the machine or the library");
            }
        }
    }

    /** The program is to throw itself: never the machine in it, nor a list that it asks. */
    static boolean isThrownByProgram(Throwable e) {
        StackTraceElement[] trace = e.getStackTrace();
        return trace.length > 0 && trace[0].getClassName().startsWith("Spellreform");
    }

    static void noIndex(String what, Call call) {
        fails(what, IndexOutOfBoundsException.class, call);
    }

    static void badArgument(String what, Call call) {
        fails(what, IllegalArgumentException.class, call);
    }

    static void unsupported(String what, Call call) {
        fails(what, UnsupportedOperationException.class, call);
    }

    static void badState(String what, Call call) {
        fails(what, IllegalStateException.class, call);
    }

    static void noElement(String what, Call call) {
        fails(what, java.util.NoSuchElementException.class, call);
    }

    static void arithmetic(String what, Call call) {
        fails(what, ArithmeticException.class, call);
    }

    static long number(boolean answer) {
        return answer ? 1L : 0L;
    }

    /** Puts a text into the buffer, in place of what is there. */
    static void type(Spellreform x, String text) {
        x.clear();
        for (int i = 0; i < text.length(); i++) {
            x.type(text.charAt(i));
        }
    }

    static int addWord(Spellreform x, String text, int origin, int use, boolean isName) {
        type(x, text);
        return x.word(origin, use, isName);
    }

    static int addWord(Spellreform x, String text) {
        return addWord(x, text, 0, 1, false);
    }

    static int addRule(Spellreform x, String text, char place, int origin) {
        type(x, text);
        return x.rule(place, origin);
    }

    /** Adds a rule for anywhere and for all, and puts it in force. */
    static int putRule(Spellreform x, String text, int orthography) {
        int rule = addRule(x, text, 'a', -1);
        x.force(orthography, rule, true);
        return rule;
    }

    static void except(Spellreform x, int word, int orthography, String text) {
        type(x, text);
        x.except(word, orthography);
    }

    static String spelling(Spellreform x, int word, int orthography) {
        StringBuilder letters = new StringBuilder();
        for (int i = 0; i < x.letters(word, orthography); i++) {
            letters.append(x.letterAt(word, orthography, i));
        }
        return letters.toString();
    }

    /** What is in the buffer; signAt alone is asked, so it stays as it is. */
    static String buffer(Spellreform x) {
        StringBuilder signs = new StringBuilder();
        while (true) {
            try {
                signs.append(x.signAt(signs.length()));
            } catch (java.util.NoSuchElementException e) {
                return signs.toString();
            }
        }
    }

    static void end(String name) {
        System.out.println(name + ": " + checks + " checks, " + failures + " failures");
        if (failures > 0) {
            System.exit(1);
        }
    }
}
