import java.util.function.Supplier;

/**
 * "A method that throws an exception changes nothing. If several exceptions apply, the one that is
 * documented first is thrown." For each exception of each method: by the numbers that are refused
 * (Ranges), and by the states in which a call is refused, alone and together with others.
 */
public final class RefusalsTest {
    private static final Class<?> ARGUMENT = IllegalArgumentException.class;
    private static final Class<?> INDEX = IndexOutOfBoundsException.class;
    private static final Class<?> STATE = IllegalStateException.class;
    private static final Class<?> UNSUPPORTED = UnsupportedOperationException.class;
    private static final Class<?> ELEMENT = java.util.NoSuchElementException.class;
    private static final Class<?> ARITHMETIC = ArithmeticException.class;

    /** The buffer has no letters, or other signs than these. */
    private static final String[] NO_LETTERS = {"", "-", "-oi", "oi-", "o-i", "------------------------"};
    private static final String[] NO_WORDS = {"", "-", "--", "-a", "a-", "a--b", "a-b-", "-a-b",
        "aaaaaaaaaaaaaaaaa", "a-a-a-a-a-a-a-a-a", "a-aaaaaaaaaaaaaaaaaaaaaa"};
    private static final String[] NO_RULES = {"", "-", "--", "a", "-a", "a-", "a--b", "-a-b", "a-b-",
        "a-b-c", "aaaa-b", "a-bbbb", "aaaa-bbbb", "aaabbb", "aaaabbb", "aaa-bbb-"};
    private static final int[] WRONG_ORTHOGRAPHIES = {-1, 4};
    private static final int[] WRONG_YEARS = {-1, 10000};
    private static final int[] WRONG_INDICES = {-1, 2};

    public static void main(String[] args) {
        Ranges.check();
        type();
        signs();
        word();
        rule();
        force();
        except();
        elements();
        readings();
        convert();
        draft();
        decree();
        judge();
        reader();
        print();
        sell();
        collect();
        adoption();
        figures();
        Refusals.allSeen();
        Check.end("RefusalsTest");
    }

    private static void refuses(String method, Class<?> due, Supplier<Spellreform> making,
            Refusals.Deed deed) {
        Refusals.check(method, "in its state", due, making, deed);
    }

    private static void type() {
        String full = "abcdefghijklmnopqrstuvwx";
        for (char sign : new char[] {'a', 'z', '-'}) {
            refuses("type", STATE, () -> Example.rich(full), x -> x.type(sign));
            refuses("type", STATE, Example::fullOfLetters, x -> x.type(sign));
        }
        for (char sign : new char[] {(char) 0, ',', '.', '`', '{', 'A', 'Z', (char) 173, (char) 8208,
            (char) 65345, (char) 65535}) {
            refuses("type", ARGUMENT, () -> Example.rich("oi"), x -> x.type(sign));
            refuses("type", ARGUMENT, () -> Example.rich(full), x -> x.type(sign));
            refuses("type", ARGUMENT, Example::fullOfLetters, x -> x.type(sign));
        }
    }

    /** All signs but those that the document names, for a place, a school and typing. */
    private static void signs() {
        Spellreform x = new Spellreform();
        for (int i = 0; i <= 65535; i++) {
            char sign = (char) i;
            if (i % 100 == 0) {
                x = Example.typed("t-d");
            }
            Spellreform asked = x;
            if ("abev".indexOf(sign) < 0) {
                Check.badArgument("rule, place " + i, () -> asked.rule(sign, -1));
            }
            if ("sth".indexOf(sign) < 0) {
                Check.badArgument("score, school " + i, () -> asked.score(sign, 0));
            }
            if (sign != '-' && (sign < 'a' || sign > 'z')) {
                Check.badArgument("type, sign " + i, () -> asked.type(sign));
            }
        }
        refuses("rule", ARGUMENT, () -> Example.rich("t-d"), y -> y.rule('c', 0));
        refuses("rule", ARGUMENT, () -> Example.rich("t-d"), y -> y.rule('c', 5));
        refuses("score", ARGUMENT, () -> Example.rich("t-d"), y -> y.score('b', 0));
        refuses("score", ARGUMENT, () -> Example.rich("t-d"), y -> y.score('b', 4));
    }

    private static void word() {
        int[][] wrong = {{-1, 1}, {5, 1}, {0, 0}, {0, 1000}, {5, 0}};
        for (String text : NO_WORDS) {
            refuses("word", UNSUPPORTED, () -> Example.rich(text), x -> x.word(0, 1, false));
            refuses("word", UNSUPPORTED, () -> Example.fullOfWords(text), x -> x.word(4, 999, true));
            for (int[] numbers : wrong) {
                refuses("word", ARGUMENT, () -> Example.rich(text),
                        x -> x.word(numbers[0], numbers[1], false));
                refuses("word", ARGUMENT, () -> Example.fullOfWords(text),
                        x -> x.word(numbers[0], numbers[1], false));
            }
        }
        refuses("word", STATE, () -> Example.fullOfWords("a"), x -> x.word(0, 1, false));
        refuses("word", STATE, () -> Example.fullOfWords("a-b-c"), x -> x.word(4, 999, true));
        for (int[] numbers : wrong) {
            refuses("word", ARGUMENT, () -> Example.fullOfWords("a"),
                    x -> x.word(numbers[0], numbers[1], false));
        }
        refuses("word", UNSUPPORTED, Example::fullOfLetters, x -> x.word(0, 1, false));
    }

    private static void rule() {
        for (String text : NO_RULES) {
            refuses("rule", UNSUPPORTED, () -> Example.rich(text), x -> x.rule('a', -1));
            refuses("rule", UNSUPPORTED, () -> Example.fullOfRules(text), x -> x.rule('v', 4));
            for (int origin : new int[] {-2, 5}) {
                refuses("rule", ARGUMENT, () -> Example.rich(text), x -> x.rule('a', origin));
                refuses("rule", ARGUMENT, () -> Example.fullOfRules(text), x -> x.rule('b', origin));
            }
            refuses("rule", ARGUMENT, () -> Example.fullOfRules(text), x -> x.rule('t', 0));
        }
        refuses("rule", STATE, () -> Example.fullOfRules("t-d"), x -> x.rule('a', -1));
        refuses("rule", STATE, () -> Example.fullOfRules("tad-des"), x -> x.rule('e', 4));
        refuses("rule", ARGUMENT, () -> Example.fullOfRules("t-d"), x -> x.rule('A', 0));
        refuses("rule", ARGUMENT, () -> Example.fullOfRules("t-d"), x -> x.rule('a', 5));
        refuses("rule", UNSUPPORTED, Example::fullOfLetters, x -> x.rule('a', 0));
    }

    private static void force() {
        refuses("force", UNSUPPORTED, () -> Example.rich("oi"),
                x -> Check.number(x.force(1, 2, true)));
        refuses("force", UNSUPPORTED, () -> Example.rich("oi"),
                x -> Check.number(x.force(2, 0, true)));
    }

    private static void except() {
        for (String text : new String[] {"-", "-oi", "oi-", "o-i", "aaaaaaaaaaaaaaaaa",
            "aaaaaaaa-aaaaaaaa", "aaaaaaaaaaaaaaaaaaaaaaaa"}) {
            refuses("except", UNSUPPORTED, () -> Example.rich(text),
                    x -> Check.number(x.except(0, 0)));
            refuses("except", UNSUPPORTED, () -> Example.rich(text),
                    x -> Check.number(x.except(1, 1)));
            for (int orthography : WRONG_ORTHOGRAPHIES) {
                refuses("except", ARGUMENT, () -> Example.rich(text),
                        x -> Check.number(x.except(0, orthography)));
                refuses("except", INDEX, () -> Example.rich(text),
                        x -> Check.number(x.except(5, orthography)));
            }
        }
        refuses("except", UNSUPPORTED, Example::fullOfLetters, x -> Check.number(x.except(0, 0)));
    }

    /** Where nothing is at all, the index 0 is too much. */
    private static void elements() {
        refuses("signAt", ELEMENT, () -> Example.rich(""), x -> x.signAt(0));
        refuses("signAt", ELEMENT, Example::fullOfLetters, x -> x.signAt(48));
        refuses("draftAt", ELEMENT, () -> Example.rich("oi"), x -> x.draftAt(3, 0));
        refuses("draftAt", ELEMENT, Spellreform::new, x -> x.draftAt(0, 0));
        refuses("breakAt", ELEMENT, () -> Example.rich("oi"), x -> x.breakAt(4, 0, 0));
        refuses("letterAt", ELEMENT, Example::fullOfLetters, x -> x.letterAt(0, 0, 48));
        refuses("letterAt", ELEMENT, () -> Example.rich("oi"), x -> x.letterAt(1, 1, 3));
        refuses("ruleOf", ELEMENT, Example::fullOfLetters, x -> x.ruleOf(0, 0, 16));
        refuses("ruleOf", ELEMENT, () -> Example.rich("oi"), x -> x.ruleOf(0, 1, 5));
    }

    private static void readings() {
        for (String text : NO_LETTERS) {
            refuses("readings", UNSUPPORTED, () -> Example.rich(text), x -> x.readings(0));
            refuses("readingAt", UNSUPPORTED, () -> Example.rich(text), x -> x.readingAt(0, 0));
            for (int index : WRONG_INDICES) {
                refuses("readingAt", UNSUPPORTED, () -> Example.rich(text), x -> x.readingAt(3, index));
            }
            for (int orthography : WRONG_ORTHOGRAPHIES) {
                refuses("readings", ARGUMENT, () -> Example.rich(text), x -> x.readings(orthography));
                refuses("readingAt", ARGUMENT, () -> Example.rich(text),
                        x -> x.readingAt(orthography, 2));
            }
        }
        refuses("readings", UNSUPPORTED, Spellreform::new, x -> x.readings(0));
        refuses("readingAt", ELEMENT, () -> Example.rich("qq"), x -> x.readingAt(0, 0));
        refuses("readingAt", ELEMENT, () -> Example.typed("qq"), x -> x.readingAt(0, 0));
    }

    private static void convert() {
        for (String text : NO_LETTERS) {
            refuses("convert", UNSUPPORTED, () -> Example.rich(text), x -> x.convert(0, 1));
            for (int orthography : WRONG_ORTHOGRAPHIES) {
                refuses("convert", ARGUMENT, () -> Example.rich(text), x -> x.convert(orthography, 0));
                refuses("convert", ARGUMENT, () -> Example.rich(text), x -> x.convert(0, orthography));
            }
        }
        refuses("convert", ELEMENT, () -> Example.rich("qq"), x -> x.convert(0, 1));
        refuses("convert", ELEMENT, () -> Example.rich("tat"), x -> x.convert(1, 0));
        refuses("convert", STATE, RefusalsTest::readAsTwo, x -> x.convert(3, 0));
        refuses("convert", ARGUMENT, RefusalsTest::readAsTwo, x -> x.convert(3, 4));
    }

    /** The buffer is read as two words in the orthography 3, that are spelled unlike elsewhere. */
    private static Spellreform readAsTwo() {
        Spellreform x = Example.rich("");
        Check.except(x, 1, 3, "oi");
        Check.type(x, "oi");
        return x;
    }

    private static void draft() {
        refuses("draft", UNSUPPORTED, () -> Example.rich("oi"), x -> x.draft(0, 3));
        refuses("draft", UNSUPPORTED, () -> Example.rich("oi"), x -> x.draft(0, 2));
        refuses("draft", UNSUPPORTED, () -> Example.rich("oi"), x -> x.draft(1, 0));
        refuses("draft", UNSUPPORTED, () -> {
            Spellreform x = Example.rich("oi");
            x.force(0, 3, true);
            return x;
        }, x -> x.draft(0, 3));
    }

    private static void decree() {
        refuses("decree", STATE, Example::fullOfDecrees, x -> x.decree(2000, 1));
        refuses("decree", STATE, Example::fullOfDecrees, x -> x.decree(0, 0));
        for (int orthography : WRONG_ORTHOGRAPHIES) {
            refuses("decree", ARGUMENT, Example::fullOfDecrees, x -> x.decree(2000, orthography));
        }
        for (int year : WRONG_YEARS) {
            refuses("decree", ARGUMENT, Example::fullOfDecrees, x -> x.decree(year, 0));
        }
        refuses("strike", INDEX, Example::fullOfDecrees, x -> Check.number(x.strike(12, true)));
        refuses("strike", INDEX, Spellreform::new, x -> Check.number(x.strike(0, true)));
    }

    /** The word 3 is a name: it is judged 'n' only behind the exceptions. */
    private static void judge() {
        for (String text : NO_LETTERS) {
            for (int word : new int[] {0, 3}) {
                refuses("judge", UNSUPPORTED, () -> Example.rich(text), x -> x.judge(word, 2000, 0));
                refuses("judge", ARGUMENT, () -> Example.rich(text), x -> x.judge(word, 10000, 0));
                refuses("judge", ARGUMENT, () -> Example.rich(text), x -> x.judge(word, 2000, 8));
            }
            refuses("judge", INDEX, () -> Example.rich(text), x -> x.judge(5, 2000, 0));
            refuses("judge", INDEX, () -> Example.rich(text), x -> x.judge(-1, -1, -1));
        }
        refuses("judge", INDEX, () -> Example.typed("oi"), x -> x.judge(0, 0, 0));
    }

    private static void reader() {
        refuses("reader", STATE, Example::fullOfReaders, x -> x.reader());
        refuses("learn", INDEX, Spellreform::new, x -> x.learn(0, 0));
        refuses("learn", INDEX, Example::fullOfReaders, x -> x.learn(10, 0));
        for (int orthography = 0; orthography <= 3; orthography++) {
            int next = orthography;
            refuses("learn", STATE, Example::fullOfLearning, x -> x.learn(0, next));
        }
        for (int orthography : WRONG_ORTHOGRAPHIES) {
            refuses("learn", ARGUMENT, Example::fullOfLearning, x -> x.learn(0, orthography));
            refuses("learn", INDEX, Example::fullOfLearning, x -> x.learn(2, orthography));
        }
        refuses("write", INDEX, Example::fullOfReaders, x -> x.write(0, 0));
        refuses("write", INDEX, () -> Example.fullOfWords("oi"), x -> x.write(0, 0));
        refuses("mistakes", INDEX, () -> Example.fullOfWords("oi"), x -> x.mistakes(0, 0));
    }

    private static void print() {
        refuses("print", STATE, Example::fullOfEditions, x -> x.print(3, 0, 1));
        refuses("print", STATE, Example::fullOfEditions, x -> x.print(3, 3, 9999));
        refuses("print", ARGUMENT, Example::fullOfEditions, x -> x.print(3, 0, 0));
        refuses("print", ARGUMENT, Example::fullOfEditions, x -> x.print(3, 0, 10000));
        for (int orthography : WRONG_ORTHOGRAPHIES) {
            refuses("print", ARGUMENT, Example::fullOfEditions, x -> x.print(3, orthography, 1));
        }
    }

    private static void sell() {
        refuses("sell", UNSUPPORTED, Example::fullOfEditions, x -> x.sell(3, 41));
        refuses("sell", UNSUPPORTED, Example::fullOfEditions, x -> x.sell(3, 9999));
        refuses("sell", UNSUPPORTED, Example::fullOfEditions, x -> x.sell(2, 1));
        refuses("sell", ARGUMENT, Example::fullOfEditions, x -> x.sell(3, 10000));
        refuses("sell", ARGUMENT, Example::fullOfEditions, x -> x.sell(8, 41));
        refuses("sell", ARGUMENT, Spellreform::new, x -> x.sell(0, 0));
        refuses("sell", UNSUPPORTED, Spellreform::new, x -> x.sell(0, 1));
    }

    private static void collect() {
        for (String text : NO_LETTERS) {
            refuses("collect", UNSUPPORTED, () -> Example.rich(text), x -> x.collect(0, 2000));
            refuses("collect", UNSUPPORTED, () -> Example.fullOfTexts(text), x -> x.collect(0, 2000));
            for (int year : WRONG_YEARS) {
                refuses("collect", ARGUMENT, () -> Example.rich(text), x -> x.collect(0, year));
                refuses("collect", ARGUMENT, () -> Example.fullOfTexts(text), x -> x.collect(0, year));
                refuses("collect", INDEX, () -> Example.fullOfTexts(text), x -> x.collect(1, year));
            }
        }
        refuses("collect", STATE, () -> Example.fullOfTexts("a"), x -> x.collect(0, 2000));
        refuses("collect", STATE, () -> Example.fullOfTexts("qq"), x -> x.collect(0, 9999));
        refuses("collect", ARGUMENT, () -> Example.fullOfTexts("a"), x -> x.collect(0, 10000));
        refuses("collect", INDEX, () -> Example.fullOfTexts("a"), x -> x.collect(1, 2000));
    }

    private static void adoption() {
        refuses("adoption", ELEMENT, () -> Example.rich("oi"), x -> x.adoption(0, 1999));
        refuses("adoption", ELEMENT, () -> Example.rich("oi"), x -> x.adoption(3, 2001));
        refuses("adoption", ELEMENT, Spellreform::new, x -> x.adoption(0, 0));
        refuses("adoption", ARGUMENT, Spellreform::new, x -> x.adoption(4, 0));
        refuses("adoption", ARGUMENT, Spellreform::new, x -> x.adoption(0, 10000));
    }

    private static void figures() {
        refuses("soundShare", ARITHMETIC, () -> Example.typed("oi"), x -> (long) x.soundShare(0));
        refuses("meanLetters", ARITHMETIC, () -> Example.typed("oi"), x -> (long) x.meanLetters(3));
        refuses("soundShare", ARGUMENT, () -> Example.typed("oi"), x -> (long) x.soundShare(4));
        refuses("meanLetters", ARGUMENT, () -> Example.typed("oi"), x -> (long) x.meanLetters(-1));
    }
}
