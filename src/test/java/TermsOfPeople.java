/** Readers, books, the corpus and exceptions. */
final class TermsOfPeople {
    private TermsOfPeople() {
    }

    static void test(Sentences s) {
        s.test("Readers, at most 10, are numbered from 0, and learn orthographies, one behind the other.",
                TermsOfPeople::readers);
        s.test("A reader writes a word by the orthography that was learned last, the orthography 0 at first;",
                TermsOfPeople::writing);
        s.test("but an exception of which the use is less than 100 by its rules alone, if an orthography was"
                + " learned ahead of that;", TermsOfPeople::rareExceptions);
        s.test("Who learned an orthography twice has learned one ahead of it.", TermsOfPeople::learnedTwice);
        s.test("and a name as it sounds.", TermsOfPeople::names);
        s.test("A name is written as it sounds, an exception or not.", TermsOfPeople::namesThatAreExceptions);
        s.test("A house prints copies in an orthography, an edition each time;", TermsOfPeople::prints);
        s.test("it sells those of the oldest edition first.", TermsOfPeople::sells);
        s.test("To pulp takes away all editions that are in neither the right orthography of a year nor in the"
                + " one that is borne.", TermsOfPeople::pulps);
        s.test("At most 60 texts are collected, each for a word in a year.", TermsOfPeople::corpus);
        s.test("Adoption of an orthography in a year is 1000 times the texts of this year that are spelled so"
                + " in it, divided by all of this year, rounded down.", TermsOfPeople::adoption);
        s.test("A method that throws an exception changes nothing.", TermsOfPeople::throwsChangeNothing);
        s.test("If several exceptions apply, the one that is documented first is thrown.",
                TermsOfPeople::documentedFirst);
    }

    private static void readers() {
        Spellreform x = new Spellreform();
        Check.noIndex("none at first", () -> x.learn(0, 0));
        for (int i = 0; i < 10; i++) {
            Check.is("reader", x.reader(), i);
        }
        Check.badState("the 11th", () -> x.reader());
        Check.noIndex("there is no 11th", () -> x.learn(10, 0));
        Check.noIndex("none ahead of the first", () -> x.learn(-1, 0));
        for (int i = 1; i <= 8; i++) {
            Check.is("the last one learns", x.learn(9, i % 4), i);
            Check.is("the first one learns one anew", x.learn(0, 2), i);
        }
        Check.badState("the 9th", () -> x.learn(9, 1));
        Check.badState("the 9th, anew", () -> x.learn(0, 2));
        Check.is("another one has learned none", x.learn(5, 3), 1);
    }

    /** A reader, and the words 0 to 3: of use 99 and 100, both exceptions in 1 and 2, none, a name. */
    private static Spellreform written() {
        Spellreform x = new Spellreform();
        Check.addWord(x, "ta-t", 0, 99, false);
        Check.addWord(x, "ta-t", 0, 100, false);
        Check.addWord(x, "ta-t", 0, 99, false);
        Check.addWord(x, "ta-t", 0, 99, true);
        Check.putRule(x, "t-th", 1);
        Check.putRule(x, "a-o", 2);
        for (int word : new int[] {0, 1, 3}) {
            Check.except(x, word, 1, "one");
            Check.except(x, word, 2, "two");
        }
        x.reader();
        return x;
    }

    /** What the reader 0 writes for the words from 0 on. */
    private static void writes(Spellreform x, String what, String... due) {
        for (int word = 0; word < due.length; word++) {
            Check.is(what + ", letters of " + word, x.write(0, word), due[word].length());
            Check.isText(what + ", " + word, Check.buffer(x), due[word]);
        }
    }

    private static void writing() {
        Spellreform x = written();
        Check.type(x, "qqqqqqqqqqqqqqqqqqqqqqqq");
        writes(x, "the orthography 0 at first", "tat", "tat", "tat", "tat");
        x.learn(0, 1);
        writes(x, "the only one", "one", "one", "thath", "tat");
        x.learn(0, 3);
        writes(x, "the last one", "tat", "tat", "tat", "tat");
        x.learn(0, 2);
        writes(x, "the last of three", "tot", "two", "tot", "tat");
        x.reader();
        x.learn(1, 1);
        writes(x, "another reader learns", "tot", "two", "tot", "tat");
        Spellreform y = Example.fullOfLetters();
        Check.is("the longest", y.write(0, 0), 48);
        Check.isText("the longest, whole", Check.buffer(y), "eau".repeat(16));
        Check.badState("nothing is typed behind it", () -> y.type('a'));
        Check.is("it can be cleared", y.clear(), 48);
    }

    private static void rareExceptions() {
        Spellreform x = written();
        Check.except(x, 0, 0, "nought");
        Check.except(x, 1, 0, "nought");
        writes(x, "none was learned", "nought", "nought");
        x.learn(0, 0);
        writes(x, "one was learned, 0", "nought", "nought");
        x.learn(0, 1);
        writes(x, "0 was learned ahead", "thath", "one", "thath");
        x.learn(0, 0);
        writes(x, "two were learned ahead", "tat", "nought");
        Spellreform y = new Spellreform();
        int[] uses = {1, 98, 99, 100, 101, 999};
        for (int use : uses) {
            Check.except(y, Check.addWord(y, "ta", 0, use, false), 3, "da");
        }
        y.reader();
        y.learn(0, 3);
        writes(y, "one alone", "da", "da", "da", "da", "da", "da");
        y.learn(0, 1);
        y.learn(0, 3);
        writes(y, "by use", "ta", "ta", "ta", "da", "da", "da");
    }

    private static void learnedTwice() {
        Spellreform x = written();
        x.learn(0, 1);
        writes(x, "once", "one", "one");
        x.learn(0, 1);
        writes(x, "twice", "thath", "one");
        x.decree(0, 1);
        Check.is("mistakes", x.mistakes(0, 0), 99);
    }

    private static void names() {
        Spellreform x = written();
        x.learn(0, 1);
        Check.addWord(x, "t-t-t-t-t-t-t-t", 4, 999, true);
        Check.addWord(x, "tttttttttttttttt", 4, 1, true);
        Check.is("by the rules it is longer", x.letters(4, 1), 16);
        Check.is("without -", x.write(0, 4), 8);
        Check.isText("without -, sounds", Check.buffer(x), "tttttttt");
        Check.is("16 sounds", x.write(0, 5), 16);
        x.decree(0, 2);
        Check.is("it is no mistake", x.mistakes(0, 0), 99 + 100 + 99);
    }

    private static void namesThatAreExceptions() {
        Spellreform x = written();
        for (int learned = 1; learned <= 4; learned++) {
            x.learn(0, 1);
            Check.is("learned " + learned, x.write(0, 3), 3);
            Check.isText("learned " + learned, Check.buffer(x), "tat");
        }
    }

    private static void prints() {
        Spellreform x = new Spellreform();
        for (int i = 1; i <= 20; i++) {
            Check.is("edition", x.print(7, 2, 9999), i * 9999);
        }
        Check.badState("the 21st", () -> x.print(7, 2, 1));
        Check.is("another house", x.print(6, 2, 1), 1);
        Check.is("one copy", x.sell(7, 1), 20);
        Check.badState("a part of an edition is one", () -> x.print(7, 2, 1));
        Check.is("the last copies of one", x.sell(7, 9998), 19);
        Check.is("the 20th again", x.print(7, 2, 1), 19 * 9999 + 1);
        Check.badState("the 21st again", () -> x.print(7, 2, 1));
        Check.is("all are pulped", x.pulp(7, 0), 19 * 9999 + 1);
        Check.is("the first one again", x.print(7, 2, 5), 5);
        for (int wrong : new int[] {0, 10000, -1}) {
            Check.badArgument(wrong + " copies", () -> x.print(7, 2, wrong));
        }
    }

    private static void sells() {
        Spellreform x = new Spellreform();
        Check.unsupported("none", () -> x.sell(0, 1));
        x.print(0, 1, 3);
        x.print(0, 2, 3);
        x.print(0, 3, 3);
        Check.unsupported("one too many", () -> x.sell(0, 10));
        Check.is("all but one of the oldest", x.sell(0, 2), 3);
        Check.is("the last one of it", x.sell(0, 1), 2);
        Check.is("the next one, and one of the last", x.sell(0, 4), 1);
        Check.unsupported("one more than are left", () -> x.sell(0, 3));
        x.decree(5, 3);
        Check.is("two are left of the newest", x.pulp(0, 0), 2);
        x.print(0, 1, 3);
        Check.is("all of one", x.sell(0, 3), 0);
        for (int i = 0; i < 20; i++) {
            x.print(0, 1, 1);
        }
        Check.is("20 at once", x.sell(0, 20), 0);
        x.print(0, 1, 9999);
        Check.is("9999 at once", x.sell(0, 9999), 0);
        for (int wrong : new int[] {0, 10000, -1}) {
            Check.badArgument(wrong + " copies", () -> x.sell(0, wrong));
        }
    }

    private static Spellreform printed() {
        Spellreform x = new Spellreform();
        x.decree(1000, 1);
        x.decree(2000, 2);
        for (int i = 0; i < 20; i++) {
            x.print(3, i % 4, 2 + i);
        }
        return x;
    }

    private static void pulps() {
        int[] copies = {50, 55, 60, 65};
        int[] years = {0, 999, 1000, 1004, 1005, 1999, 2000, 2004, 2005, 9999};
        int[] right = {0, 0, 1, 1, 1, 1, 2, 2, 2, 2};
        int[] borne = {-1, -1, 0, 0, -1, -1, 1, 1, -1, -1};
        for (int i = 0; i < years.length; i++) {
            Spellreform x = printed();
            int spared = copies[right[i]] + (borne[i] < 0 ? 0 : copies[borne[i]]);
            Check.is("pulped of " + years[i], x.pulp(3, years[i]), 230 - spared);
            Check.is("pulped twice", x.pulp(3, years[i]), 0);
            Check.is("not in another house", x.pulp(2, years[i]), 0);
            Check.is("editions that are left", x.sell(3, 1), borne[i] < 0 ? 5 : 10);
            Check.is("copies that are left", x.print(3, 3, 1), spared);
        }
        Spellreform x = new Spellreform();
        Check.is("without editions", x.pulp(0, 0), 0);
        x.print(0, 1, 1);
        Check.is("all", x.pulp(0, 0), 1);
        x.print(0, 0, 1);
        Check.is("none", x.pulp(0, 0), 0);
    }

    private static void corpus() {
        Spellreform x = new Spellreform();
        Check.addWord(x, "ta");
        for (int i = 1; i <= 60; i++) {
            Check.type(x, i == 60 ? "da" : "ta");
            Check.is("text", x.collect(0, i == 60 ? 9999 : 0), i);
            Check.is("the buffer is empty", x.clear(), 0);
        }
        Check.type(x, "ta");
        Check.badState("the 61st", () -> x.collect(0, 0));
        Check.badState("the 61st of another year", () -> x.collect(0, 1));
        Check.is("of the first year", x.adoption(0, 0), 1000);
        Check.is("of the last year", x.adoption(0, 9999), 0);
        Check.noElement("of another year", () -> x.adoption(0, 1));
        Spellreform y = Example.fullOfLetters();
        Check.is("the longest text", y.collect(0, 0), 1);
        Check.is("is spelled so", y.adoption(0, 0), 1000);
        Check.is("is not spelled so", y.adoption(1, 0), 0);
    }

    private static void adoption() {
        for (int all : new int[] {1, 2, 3, 7, 16, 60}) {
            for (int so : new int[] {0, 1, all / 2, all - 1, all}) {
                Spellreform x = new Spellreform();
                Check.addWord(x, "a");
                Check.addWord(x, "b");
                Check.putRule(x, "b-a", 3);
                for (int i = 0; i < all; i++) {
                    x.type(i < so ? 'b' : 'a');
                    x.collect(1, 7);
                }
                Check.is(so + " of " + all, x.adoption(2, 7), 1000 * so / all);
                Check.is("the others of " + all, x.adoption(3, 7), 1000 * (all - so) / all);
            }
        }
        Spellreform x = new Spellreform();
        Check.addWord(x, "a");
        Check.noElement("no texts", () -> x.adoption(0, 0));
        x.type('a');
        x.collect(0, 1);
        Check.noElement("none of this year", () -> x.adoption(0, 0));
        Check.noElement("none of the next year", () -> x.adoption(0, 2));
    }

    /** RefusalsTest sees to each exception of each method; this is one of each kind. */
    private static void throwsChangeNothing() {
        java.util.function.Supplier<Spellreform> making = () -> Example.rich("oi");
        Refusals.check("type", "wrong sign", IllegalArgumentException.class, making, x -> x.type('A'));
        Refusals.check("word", "wrong use", IllegalArgumentException.class, making,
                x -> x.word(0, 1000, false));
        Refusals.check("learn", "no reader", IndexOutOfBoundsException.class, making, x -> x.learn(2, 0));
        Refusals.check("rule", "no rule", UnsupportedOperationException.class, making,
                x -> x.rule('a', 0));
        Refusals.check("readingAt", "no more", java.util.NoSuchElementException.class, making,
                x -> x.readingAt(0, 2));
        Refusals.check("reader", "no more", IllegalStateException.class, Example::fullOfReaders,
                x -> x.reader());
        Refusals.check("meanLetters", "no words", ArithmeticException.class, Spellreform::new,
                x -> (long) x.meanLetters(0));
    }

    private static void documentedFirst() {
        Spellreform x = Example.fullOfWords("a-");
        Check.badArgument("all three of word", () -> x.word(5, 1, false));
        Check.unsupported("two of word", () -> x.word(4, 1, false));
        x.clear();
        x.type('a');
        Check.badState("one of word", () -> x.word(4, 1, false));
        x.clear();
        Check.badArgument("orthography ahead of the rule", () -> Check.number(x.force(4, 0, true)));
        Check.noIndex("word ahead of the orthography", () -> x.letters(40, 4));
        Check.noIndex("word ahead of year, house and buffer", () -> x.judge(40, -1, 8));
        Check.badArgument("year ahead of the buffer", () -> x.judge(39, -1, 7));
        Check.unsupported("the buffer at last", () -> x.judge(39, 0, 7));
        Check.badArgument("orthography ahead of the index", () -> x.draftAt(4, 0));
        Check.badArgument("orthography ahead of the texts", () -> x.adoption(4, 0));
        Check.badArgument("state ahead of the rule", () -> x.vote(6, 0, true));
        Check.noIndex("rule ahead of the orthography", () -> x.used(0, 4));
        Spellreform y = new Spellreform();
        Check.badArgument("orthography ahead of no words", () -> (long) y.soundShare(4));
        Check.badArgument("copies ahead of none", () -> y.sell(0, 0));
    }
}
