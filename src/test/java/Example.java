/** Objects that tests begin with: one with something of all kinds, and full ones. */
final class Example {
    private static final int[] VOTERS = {0, 1, 2, 3};

    private Example() {
    }

    /** A new object, but for the buffer. */
    static Spellreform typed(String text) {
        Spellreform x = new Spellreform();
        Check.type(x, text);
        return x;
    }

    /**
     * 5 words, 4 rules, 2 decrees and 2 readers; the last two words are homographs everywhere. The
     * rules 0 and 2 clash, and stand in each other's way in the drafts for 1 and 2.
     */
    static Spellreform rich(String text) {
        Spellreform x = new Spellreform();
        Check.addWord(x, "ted-es", 0, 200, false);
        Check.addWord(x, "tat", 1, 50, false);
        Check.addWord(x, "ta-da", 2, 999, true);
        Check.addWord(x, "oi", 3, 7, true);
        Check.addWord(x, "o-i", 4, 1, false);
        Check.addRule(x, "t-th", 'a', -1);
        Check.addRule(x, "d-t", 'e', 0);
        Check.addRule(x, "t-s", 'b', 2);
        Check.addRule(x, "a-e", 'v', -1);
        x.force(1, 0, true);
        x.force(2, 2, true);
        x.force(2, 1, true);
        Check.except(x, 1, 1, "tet");
        for (int state : VOTERS) {
            x.vote(state, 0, true);
            x.vote(state + 1, 2, true);
        }
        x.bar(5, 1, true);
        x.draft(0, 3);
        x.draft(0, 2);
        x.draft(1, 2);
        x.draft(2, 0);
        x.decree(1990, 1);
        x.decree(2000, 2);
        x.strike(0, true);
        x.keep(7, 3);
        x.setGrace(7);
        x.reader();
        x.reader();
        x.learn(0, 2);
        x.learn(0, 1);
        x.learn(1, 1);
        x.print(0, 1, 9990);
        x.print(0, 2, 10);
        x.print(7, 0, 9999);
        collect(x, 0, 2000, "tedes");
        collect(x, 1, 2000, "tet");
        collect(x, 4, 0, "oi");
        collect(x, 4, 9999, "oi");
        Check.type(x, text);
        return x;
    }

    static void collect(Spellreform x, int word, int year, String text) {
        Check.type(x, text);
        x.collect(word, year);
    }

    static Spellreform fullOfWords(String text) {
        Spellreform x = new Spellreform();
        for (int i = 0; i < 40; i++) {
            x.type('a');
            x.word(0, 1, false);
        }
        Check.type(x, text);
        return x;
    }

    static Spellreform fullOfRules(String text) {
        Spellreform x = new Spellreform();
        for (int i = 0; i < 40; i++) {
            x.type('t');
            x.type('-');
            x.type('d');
            x.rule('a', -1);
        }
        Check.type(x, text);
        return x;
    }

    static Spellreform fullOfDecrees() {
        Spellreform x = new Spellreform();
        for (int i = 0; i < 12; i++) {
            x.decree(i, 1 + i % 3);
        }
        x.strike(3, true);
        return x;
    }

    static Spellreform fullOfReaders() {
        Spellreform x = new Spellreform();
        for (int i = 0; i < 10; i++) {
            x.reader();
        }
        return x;
    }

    /** The reader 0 has learned 8 orthographies, the reader 1 none. */
    static Spellreform fullOfLearning() {
        Spellreform x = rich("oi");
        while (x.learn(0, 1) < 8) {
            x.learn(1, 2);
        }
        return x;
    }

    /** The house 3 has 20 editions. */
    static Spellreform fullOfEditions() {
        Spellreform x = new Spellreform();
        for (int i = 0; i < 20; i++) {
            x.print(3, i % 4, 2);
        }
        return x;
    }

    static Spellreform fullOfTexts(String text) {
        Spellreform x = new Spellreform();
        x.type('a');
        x.word(0, 1, false);
        for (int i = 0; i < 60; i++) {
            x.type('a');
            x.collect(0, 2000);
        }
        Check.type(x, text);
        return x;
    }

    /** The buffer holds the longest spelling, 48 letters. */
    static Spellreform fullOfLetters() {
        Spellreform x = new Spellreform();
        Check.addWord(x, "eeeeeeeeeeeeeeee");
        Check.putRule(x, "e-eau", 0);
        x.reader();
        x.write(0, 0);
        return x;
    }
}
