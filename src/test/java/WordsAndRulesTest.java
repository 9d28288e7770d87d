/** Promises 1 to 8. */
public final class WordsAndRulesTest {
    public static void main(String[] args) {
        promise1();
        promise2();
        promise3();
        promise4();
        promise4Edges();
        promise5();
        promise5Edges();
        promise6();
        promise7();
        promise8();
        Check.end("WordsAndRulesTest");
    }

    private static void promise1() {
        Spellreform x = new Spellreform();
        Check.is("1 clear", x.clear(), 0);
        Check.is("1 right", x.right(0), 0);
        Check.is("1 right late", x.right(9999), 0);
        Check.is("1 borne", x.borne(9999), -1);
        Check.is("1 homographs", x.homographs(3), 0);
        Check.noIndex("1 no word", () -> x.letters(0, 0));
        Check.noIndex("1 no rule", () -> x.used(0, 0));
        Check.noIndex("1 no reader", () -> x.learn(0, 0));
        Check.noIndex("1 no decree", () -> Check.number(x.strike(0, true)));
        Check.is("1 grace", x.setGrace(7), 5);
        for (int house = 0; house < 8; house++) {
            Check.is("1 kept", x.keep(house, -1), -1);
        }
        Check.is("1 sound", x.isSound(), true);
        Spellreform other = new Spellreform();
        x.type('a');
        Check.is("1 objects are apart", other.clear(), 0);
    }

    private static void promise2() {
        Spellreform x = new Spellreform();
        Check.is("2 a", x.type('a'), 1);
        Check.is("2 z", x.type('z'), 2);
        Check.is("2 -", x.type('-'), 3);
        char[] wrong = {'A', 'Z', '`', '{', ',', '.', ' ', '0', (char) 0, (char) 233, (char) 65535};
        for (char sign : wrong) {
            Check.badArgument("2 sign " + (int) sign, () -> x.type(sign));
        }
        Check.isText("2 buffer", Check.buffer(x), "az-");
        for (int i = 4; i <= 24; i++) {
            Check.is("2 fills", x.type('b'), i);
        }
        Check.badState("2 full", () -> x.type('b'));
        Check.badState("2 full, -", () -> x.type('-'));
        Check.badArgument("2 wrong sign first", () -> x.type('B'));
        Check.is("2 still", x.clear(), 24);
    }

    private static void promise3() {
        Spellreform x = new Spellreform();
        Check.is("3 empty", x.clear(), 0);
        Check.type(x, "a-b");
        Check.is("3 three", x.clear(), 3);
        Check.is("3 again", x.clear(), 0);
        Check.noElement("3 is empty", () -> x.signAt(0));
    }

    private static void promise4() {
        Spellreform x = new Spellreform();
        Check.type(x, "ted-es");
        Check.is("4 first", x.word(0, 1, false), 0);
        Check.is("4 buffer is empty", x.clear(), 0);
        Check.type(x, "tet");
        Check.is("4 second", x.word(4, 999, true), 1);
        Check.isText("4 spelled", Check.spelling(x, 0, 3), "tedes");
        Check.is("4 use", x.score('s', 0), 1000);
        Check.type(x, "a");
        Check.badArgument("4 origin -1", () -> x.word(-1, 1, false));
        Check.badArgument("4 origin 5", () -> x.word(5, 1, false));
        Check.badArgument("4 use 0", () -> x.word(0, 0, false));
        Check.badArgument("4 use 1000", () -> x.word(0, 1000, false));
        Check.badArgument("4 use least", () -> x.word(0, Integer.MIN_VALUE, false));
        Check.is("4 nothing is changed", x.clear(), 1);
        String[] wrong = {"", "-", "-a", "a-", "a--b", "--", "a-b-", "abcdefghijklmnopq",
            "a-b-c-d-e-f-g-h-i"};
        for (String text : wrong) {
            Check.type(x, text);
            Check.unsupported("4 no word: " + text, () -> x.word(0, 1, false));
            Check.badArgument("4 number first: " + text, () -> x.word(9, 1, false));
            Check.is("4 stays: " + text, x.clear(), text.length());
        }
        Check.noIndex("4 none added", () -> x.letters(2, 0));
    }

    private static void promise4Edges() {
        Spellreform x = new Spellreform();
        Check.is("4 16 sounds", Check.addWord(x, "abcdefghijklmnop"), 0);
        Check.is("4 16 signs", Check.addWord(x, "a-b-c-d-e-f-g-hi"), 1);
        Check.is("4 letters", x.letters(1, 0), 9);
        for (int i = 2; i < 40; i++) {
            Check.is("4 fills", Check.addWord(x, "a"), i);
        }
        Check.type(x, "a");
        Check.badState("4 full", () -> x.word(0, 1, false));
        Check.badArgument("4 full, number first", () -> x.word(0, 1000, false));
        Check.is("4 full, stays", x.clear(), 1);
        Check.unsupported("4 full, no word first", () -> x.word(0, 1, false));
    }

    private static void promise5() {
        Spellreform x = new Spellreform();
        Check.addWord(x, "abc");
        Check.type(x, "abc-xyz");
        Check.is("5 first", x.rule('a', -1), 0);
        Check.is("5 buffer is empty", x.clear(), 0);
        Check.is("5 b", Check.addRule(x, "a-b", 'b', 0), 1);
        Check.is("5 e", Check.addRule(x, "ab-b", 'e', 4), 2);
        Check.is("5 v", Check.addRule(x, "a-bb", 'v', 2), 3);
        Check.is("5 not in force", x.used(0, 0), 0);
        Check.isText("5 spelled", Check.spelling(x, 0, 0), "abc");
        Check.type(x, "a-b");
        Check.badArgument("5 place", () -> x.rule('c', 0));
        Check.badArgument("5 place A", () -> x.rule('A', 0));
        Check.badArgument("5 origin", () -> x.rule('a', 5));
        Check.badArgument("5 origin -2", () -> x.rule('a', -2));
        Check.is("5 nothing is changed", x.clear(), 3);
        String[] wrong = {"", "-", "a", "a-", "-a", "abcd-e", "a-bcde", "a-b-c", "a--b", "a-b-", "-a-b",
            "abc", "abcdefg", "abcd-efgh"};
        for (String text : wrong) {
            Check.type(x, text);
            Check.unsupported("5 no rule: " + text, () -> x.rule('a', 0));
            Check.badArgument("5 place first: " + text, () -> x.rule('x', 0));
            Check.is("5 stays: " + text, x.clear(), text.length());
        }
        Check.noIndex("5 none added", () -> x.used(4, 0));
    }

    private static void promise5Edges() {
        Spellreform x = new Spellreform();
        for (int i = 0; i < 40; i++) {
            Check.is("5 fills", Check.addRule(x, "a-b", 'a', i % 6 - 1), i);
        }
        Check.type(x, "a-b");
        Check.badState("5 full", () -> x.rule('a', 0));
        Check.badArgument("5 full, origin first", () -> x.rule('a', 6));
        Check.is("5 full, stays", x.clear(), 3);
        Check.unsupported("5 full, no rule first", () -> x.rule('a', 0));
    }

    private static void promise6() {
        Spellreform x = new Spellreform();
        Check.addWord(x, "tat");
        int th = Check.addRule(x, "t-th", 'a', -1);
        int d = Check.addRule(x, "t-d", 'e', 0);
        Check.is("6 in", x.force(1, th, true), false);
        Check.is("6 was in", x.force(1, th, true), true);
        Check.isText("6 spelled", Check.spelling(x, 0, 1), "thath");
        Check.isText("6 not elsewhere", Check.spelling(x, 0, 2), "tat");
        Check.unsupported("6 clash", () -> Check.number(x.force(1, d, true)));
        Check.is("6 clashing one out", x.force(1, d, false), false);
        Check.is("6 elsewhere", x.force(2, d, true), false);
        Check.isText("6 spelled there", Check.spelling(x, 0, 2), "tad");
        Check.is("6 out", x.force(1, th, false), true);
        Check.is("6 was out", x.force(1, th, false), false);
        Check.isText("6 spelled anew", Check.spelling(x, 0, 1), "tat");
        Check.is("6 no clash now", x.force(1, d, true), false);
        Check.badArgument("6 orthography 4", () -> Check.number(x.force(4, 0, true)));
        Check.badArgument("6 orthography -1", () -> Check.number(x.force(-1, 0, true)));
        Check.badArgument("6 orthography first", () -> Check.number(x.force(4, 9, true)));
        Check.noIndex("6 rule 2", () -> Check.number(x.force(0, 2, true)));
        Check.noIndex("6 rule -1", () -> Check.number(x.force(3, -1, false)));
    }

    private static void promise7() {
        Spellreform x = new Spellreform();
        int base = Check.addRule(x, "t-th", 'a', -1);
        Check.is("7 itself", x.clash(base, base), false);
        clashIs(x, "same", Check.addRule(x, "t-th", 'a', -1), false);
        clashIs(x, "other letters", Check.addRule(x, "t-d", 'a', -1), true);
        clashIs(x, "other sounds", Check.addRule(x, "d-t", 'a', -1), false);
        clashIs(x, "longer sounds", Check.addRule(x, "tt-d", 'a', -1), false);
        clashIs(x, "letters that go on", Check.addRule(x, "t-the", 'a', -1), true);
        clashIs(x, "other place", Check.addRule(x, "t-d", 'v', -1), true);
        clashIs(x, "other origin", Check.addRule(x, "t-d", 'e', 3), true);
        int end3 = Check.addRule(x, "t-x", 'e', 3);
        int begin3 = Check.addRule(x, "t-y", 'b', 3);
        int end2 = Check.addRule(x, "t-y", 'e', 2);
        int endAll = Check.addRule(x, "t-y", 'e', -1);
        int any3 = Check.addRule(x, "t-z", 'a', 3);
        int any2 = Check.addRule(x, "t-y", 'a', 2);
        Check.is("7 places", x.clash(end3, begin3), false);
        Check.is("7 origins", x.clash(end3, end2), false);
        Check.is("7 one for all", x.clash(end3, endAll), true);
        Check.is("7 one anywhere", x.clash(end3, any3), true);
        Check.is("7 anywhere, origins", x.clash(any3, any2), false);
        Check.is("7 anywhere, both ways", x.clash(any3, begin3) && x.clash(begin3, any3), true);
        Check.noIndex("7 first", () -> Check.number(x.clash(99, 0)));
        Check.noIndex("7 first -1", () -> Check.number(x.clash(-1, 0)));
        Check.noIndex("7 second", () -> Check.number(x.clash(0, 14)));
        Check.noIndex("7 second -1", () -> Check.number(x.clash(0, -1)));
    }

    private static void clashIs(Spellreform x, String what, int rule, boolean due) {
        Check.is("7 " + what, x.clash(0, rule), due);
        Check.is("7 " + what + ", turned", x.clash(rule, 0), due);
    }

    private static void promise8() {
        Spellreform x = new Spellreform();
        int word = Check.addWord(x, "te-ta");
        Check.putRule(x, "t-d", 1);
        Check.type(x, "xyz");
        Check.is("8 made one", x.except(word, 1), false);
        Check.is("8 buffer is empty", x.clear(), 0);
        Check.isText("8 spelled", Check.spelling(x, word, 1), "xyz");
        Check.isText("8 not elsewhere", Check.spelling(x, word, 0), "teta");
        Check.type(x, "abcdefghijklmnop");
        Check.is("8 made anew, 16", x.except(word, 1), true);
        Check.isText("8 spelled anew", Check.spelling(x, word, 1), "abcdefghijklmnop");
        Check.type(x, "abcdefghijklmnopq");
        Check.unsupported("8 17 letters", () -> Check.number(x.except(word, 1)));
        Check.type(x, "a-b");
        Check.unsupported("8 a -", () -> Check.number(x.except(word, 1)));
        Check.badArgument("8 orthography 4", () -> Check.number(x.except(word, 4)));
        Check.badArgument("8 orthography -1", () -> Check.number(x.except(word, -1)));
        Check.noIndex("8 word first", () -> Check.number(x.except(1, 4)));
        Check.noIndex("8 word -1", () -> Check.number(x.except(-1, 0)));
        Check.is("8 nothing is changed", x.clear(), 3);
        Check.isText("8 still", Check.spelling(x, word, 1), "abcdefghijklmnop");
        Check.is("8 none any more", x.except(word, 1), true);
        Check.isText("8 by rules", Check.spelling(x, word, 1), "deda");
        Check.is("8 was none", x.except(word, 1), false);
    }
}
