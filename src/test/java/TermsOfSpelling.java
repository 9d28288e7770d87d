/** Spellings, readings, conversions, homographs, ranks and breaks. */
final class TermsOfSpelling {
    private TermsOfSpelling() {
    }

    static void test(Sentences s) {
        s.test("In an orthography, a word is spelled from its first sound on:", TermsOfSpelling::fromFirst);
        s.test("at each sound, the first rule in force, by numbers, of which all sounds stand from here on"
                + " in the same morpheme, in its place, and whose origin fits, spells these as its letters;",
                TermsOfSpelling::firstRule);
        s.test("without one, the sound is its own letter.", TermsOfSpelling::ownLetter);
        s.test("Then it goes on behind what was spelled.", TermsOfSpelling::goesOn);
        s.test("A word can be an exception in an orthography, and be spelled as told there.",
                TermsOfSpelling::exceptions);
        s.test("A text is read in an orthography as each word that is spelled so.", TermsOfSpelling::readings);
        s.test("A conversion of a text from an orthography to another one is what the words as which it is"
                + " read are spelled as there;", TermsOfSpelling::conversions);
        s.test("it is open if these are unlike, and there is none if it is read as none.",
                TermsOfSpelling::openOrNone);
        s.test("Two words are homographs in an orthography if they are spelled alike.",
                TermsOfSpelling::homographs);
        s.test("The rank of a word is how many words come ahead of it, by their spellings letter by letter,"
                + " a shorter one first, then by numbers.", TermsOfSpelling::ranks);
        s.test("A spelling can be broken ahead of a consonant that has a vowel behind it, if there are two"
                + " letters or more on both sides, and a vowel somewhere ahead of it.",
                TermsOfSpelling::breaks);
        s.test("The vowel behind a consonant that can be broken off stands just behind it.",
                TermsOfSpelling::justBehind);
        s.test("A letter counts in sums by its number as a sign, a by 97.", TermsOfSpelling::sums);
    }

    private static String spelled(String word, String... rules) {
        Spellreform x = new Spellreform();
        Check.addWord(x, word);
        for (String rule : rules) {
            Check.putRule(x, rule, 0);
        }
        return Check.spelling(x, 0, 0);
    }

    private static void fromFirst() {
        Check.isText("from the left", spelled("aaa", "aa-b"), "ba");
        Check.isText("three of five", spelled("aaaaa", "aaa-b"), "baa");
        Check.isText("one sound", spelled("a", "a-b"), "b");
        Check.isText("16 sounds", spelled("aaaaaaaaaaaaaaaa", "aaa-b"), "bbbbba");
        Check.isText("the longest spelling", spelled("aaaaaaaaaaaaaaaa", "a-xyz"), "xyz".repeat(16));
    }

    private static void firstRule() {
        Check.isText("a short one ahead of a long one", spelled("ta", "t-d", "ta-x"), "da");
        Check.isText("a long one ahead of a short one", spelled("ta", "ta-x", "t-d"), "x");
        Check.isText("all sounds, up to the end", spelled("tat", "tat-x"), "x");
        Check.isText("one sound is missing at the end", spelled("ta", "tat-x"), "ta");
        Check.isText("two are missing at the end", spelled("t", "tat-x"), "t");
        Check.isText("up to the end of the morpheme", spelled("tat-a", "tat-x"), "xa");
        Check.isText("over it", spelled("ta-ta", "tat-x"), "tata");
        Check.isText("over it, the next one instead", spelled("ta-ta", "tat-x", "ta-y"), "yy");
        Check.isText("over it, from its last sound", spelled("a-t-a", "at-x", "ta-x"), "ata");
        Spellreform x = new Spellreform();
        Check.addWord(x, "tat", 3, 1, false);
        int first = Check.addRule(x, "t-d", 'b', 3);
        int second = Check.addRule(x, "t-s", 'e', 3);
        int third = Check.addRule(x, "t-x", 'a', 4);
        int fourth = Check.addRule(x, "t-y", 'e', 3);
        x.force(1, third, true);
        Check.isText("no origin fits", Check.spelling(x, 0, 1), "tat");
        x.force(1, second, true);
        x.force(1, first, true);
        Check.isText("each in its place", Check.spelling(x, 0, 1), "das");
        Check.is("first sound", x.ruleOf(0, 1, 0), first);
        Check.is("last sound", x.ruleOf(0, 1, 2), second);
        x.force(1, second, false);
        x.force(1, fourth, true);
        Check.isText("one that is not in force", Check.spelling(x, 0, 1), "day");
    }

    private static void ownLetter() {
        Spellreform x = new Spellreform();
        Check.addWord(x, "tad");
        Check.isText("without rules", Check.spelling(x, 0, 0), "tad");
        Check.putRule(x, "a-eau", 0);
        Check.isText("around a rule", Check.spelling(x, 0, 0), "teaud");
        Check.is("first sound", x.ruleOf(0, 0, 0), -1);
        Check.is("second sound", x.ruleOf(0, 0, 1), 0);
        Check.is("last sound", x.ruleOf(0, 0, 2), -1);
        Check.noElement("behind the last sound", () -> x.ruleOf(0, 0, 3));
        Check.noElement("ahead of the first sound", () -> x.ruleOf(0, 0, -1));
        Check.is("last letter", x.letterAt(0, 0, 4), 'd');
        Check.noElement("behind the last letter", () -> x.letterAt(0, 0, 5));
    }

    private static void goesOn() {
        Check.isText("letters are no sounds", spelled("ttt", "t-tt"), "tttttt");
        Check.isText("letters of one, sounds of another", spelled("ta", "t-a", "a-e"), "ae");
        Check.isText("behind three sounds", spelled("tattat", "tat-x", "att-y"), "xx");
        Check.isText("within what was spelled", spelled("tata", "tat-x", "ata-y"), "xa");
        Check.isText("the next morpheme", spelled("ta-ta", "ta-x"), "xx");
    }

    private static void exceptions() {
        Spellreform x = new Spellreform();
        int word = Check.addWord(x, "ta");
        Check.putRule(x, "t-d", 2);
        Check.type(x, "q");
        Check.is("1 letter", x.except(word, 2), false);
        Check.isText("1 letter, as told", Check.spelling(x, word, 2), "q");
        Check.isText("not elsewhere", Check.spelling(x, word, 1), "ta");
        Check.type(x, "abcdefghijklmnop");
        Check.is("16 letters", x.except(word, 2), true);
        Check.isText("16 letters, as told", Check.spelling(x, word, 2), "abcdefghijklmnop");
        Check.type(x, "abcdefghijklmnopq");
        Check.unsupported("17 letters", () -> Check.number(x.except(word, 2)));
        Check.type(x, "da");
        Check.is("as by rules, but an exception", x.except(word, 2), true);
        Check.is("it uses no rule", x.used(0, 2), 0);
        x.force(2, 0, false);
        Check.isText("rules are nothing to it", Check.spelling(x, word, 2), "da");
        Check.is("no letters: none any more", x.except(word, 2), true);
        Check.isText("by rules", Check.spelling(x, word, 2), "ta");
        Check.is("none twice", x.except(word, 2), false);
        Check.is("the last orthography", x.except(word, 3), false);
    }

    private static void readings() {
        Spellreform x = new Spellreform();
        Check.type(x, "ta");
        Check.is("without words", x.readings(0), 0);
        for (int i = 0; i < 40; i++) {
            Check.addWord(x, i % 2 == 0 ? "t-a" : "da", i % 5, 1, i % 3 == 0);
        }
        Check.putRule(x, "d-t", 3);
        Check.type(x, "ta");
        Check.is("half of all", x.readings(0), 20);
        Check.is("the last one", x.readingAt(0, 19), 38);
        Check.noElement("behind the last one", () -> x.readingAt(0, 20));
        Check.is("all", x.readings(3), 40);
        Check.is("the last one of all", x.readingAt(3, 39), 39);
        Check.noElement("behind the last one of all", () -> x.readingAt(3, 40));
        Check.noElement("ahead of the first one", () -> x.readingAt(3, -1));
        for (String text : new String[] {"t", "taa", "at", "tb"}) {
            Check.type(x, text);
            Check.is("not as " + text, x.readings(3), 0);
        }
    }

    private static void conversions() {
        Spellreform x = new Spellreform();
        Check.addWord(x, "ta");
        Check.addWord(x, "t-a");
        Check.addWord(x, "o");
        Check.addWord(x, "aaaaaaaaaaaaaaaa");
        Check.putRule(x, "a-eau", 1);
        Check.putRule(x, "eau-o", 2);
        Check.type(x, "ta");
        Check.is("two words, alike there", x.convert(0, 1), 4);
        Check.isText("in place of itself", Check.buffer(x), "teau");
        Check.is("shorter than it was", x.convert(1, 3), 2);
        Check.isText("the rest is gone", Check.buffer(x), "ta");
        Check.is("the same one", x.convert(3, 3), 2);
        Check.type(x, "aaaaaaaaaaaaaaaa");
        Check.is("the longest", x.convert(0, 1), 48);
        Check.isText("the longest, whole", Check.buffer(x), "eau".repeat(16));
        Check.is("the longest is read", x.readings(1), 1);
        Check.is("the longest, back", x.convert(1, 0), 16);
    }

    private static void openOrNone() {
        Spellreform x = new Spellreform();
        Check.addWord(x, "ta");
        Check.type(x, "da");
        Check.noElement("none", () -> x.convert(0, 1));
        Check.noElement("none, the same one", () -> x.convert(0, 0));
        Check.addWord(x, "da");
        Check.addWord(x, "da");
        Check.type(x, "da");
        Check.is("as two", x.convert(0, 1), 2);
        Check.except(x, 2, 1, "dah");
        Check.type(x, "da");
        Check.badState("the last one is unlike", () -> x.convert(0, 1));
        Check.is("not to another one", x.convert(0, 2), 2);
        Check.except(x, 1, 1, "dah");
        Check.type(x, "da");
        Check.is("alike again", x.convert(0, 1), 3);
        Check.isText("alike again, as told", Check.buffer(x), "dah");
        Check.is("and back", x.convert(1, 0), 2);
    }

    private static void homographs() {
        Spellreform x = new Spellreform();
        Check.is("without words", x.homographs(0), 0);
        for (int i = 0; i < 40; i++) {
            Check.addWord(x, i % 2 == 0 ? "ta" : "t-a", i % 5, 1, i % 2 == 0);
            Check.is("pairs of " + (i + 1), x.homographs(3), i * (i + 1) / 2);
        }
        Check.except(x, 39, 3, "q");
        Check.is("all but one", x.homographs(3), 39 * 38 / 2);
        Check.except(x, 0, 3, "q");
        Check.is("and two", x.homographs(3), 38 * 37 / 2 + 1);
        Check.is("lost", x.lost(3, 0), 40 * 39 / 2 - 38 * 37 / 2 - 1);
        Check.is("none is lost", x.lost(0, 3), 0);
        Check.is("nor to itself", x.lost(3, 3), 0);
    }

    private static void ranks() {
        Spellreform x = new Spellreform();
        Check.addWord(x, "b");
        Check.is("one alone", x.rank(0, 0), 0);
        Check.addWord(x, "ab");
        Check.is("the first letter", x.rank(0, 0), 1);
        Check.addWord(x, "abc");
        Check.is("a shorter one", x.rank(1, 0), 0);
        Check.is("a longer one", x.rank(2, 0), 1);
        Check.addWord(x, "aba");
        Check.is("the last letter", x.rank(3, 0), 1);
        Check.is("is behind it", x.rank(2, 0), 2);
        Check.addWord(x, "a-b");
        Check.is("alike, by numbers", x.rank(4, 0), 1);
        Check.is("alike, by numbers, the first", x.rank(1, 0), 0);
        Spellreform y = Example.fullOfWords("");
        for (int i = 0; i < 40; i++) {
            Check.is("40 alike", y.rank(i, 0), i);
        }
        Check.except(y, 0, 1, "z");
        Check.is("the last of 40", y.rank(0, 1), 39);
        Check.is("the next one", y.rank(1, 1), 0);
        Check.is("all have moved", y.moved(0, 1), 40);
        Check.is("none has moved", y.moved(0, 2), 0);
    }

    private static void breaks() {
        breaksAre("a");
        breaksAre("ta");
        breaksAre("ata");
        breaksAre("ataa");
        breaksAre("aata", 2);
        breaksAre("tata", 2);
        breaksAre("taat");
        breaksAre("tatat", 2);
        breaksAre("tatta", 3);
        breaksAre("ttta");
        breaksAre("attta", 3);
        breaksAre("tttata", 4);
        breaksAre("atttttttttttttta", 14);
        breaksAre("tttttttttttttata", 14);
        breaksAre("tatatatatatatata", 2, 4, 6, 8, 10, 12, 14);
        breaksAre("aaaaaaaaaaaaaaaa");
        breaksAre("tttttttttttttttt");
    }

    private static void justBehind() {
        breaksAre("attra", 3);
        breaksAre("aatra", 3);
        breaksAre("aatta", 3);
        breaksAre("aatt");
    }

    private static void breaksAre(String spelling, int... places) {
        Spellreform x = new Spellreform();
        Check.addWord(x, spelling);
        Check.is(spelling, x.breaks(0, 0), places.length);
        for (int i = 0; i < places.length; i++) {
            Check.is(spelling + ", " + i, x.breakAt(0, 0, i), places[i]);
        }
        Check.noElement(spelling + ", behind the last", () -> x.breakAt(0, 0, places.length));
        Check.noElement(spelling + ", ahead of the first", () -> x.breakAt(0, 0, -1));
    }

    private static void sums() {
        Spellreform x = new Spellreform();
        Check.is("without words", x.checksum(0), 0L);
        Check.addWord(x, "a");
        Check.is("a", x.checksum(0), 97L);
        Check.except(x, 0, 1, "z");
        Check.is("z", x.checksum(1), 122L);
        Check.addWord(x, "a");
        Check.is("a and a", x.checksum(0), 97L * 31L + 97L);
        java.math.BigInteger due = java.math.BigInteger.valueOf(97 * 31 + 97);
        boolean wasNegative = false;
        for (int i = 2; i < 40; i++) {
            Check.addWord(x, "zzzz");
            for (int k = 0; k < 4; k++) {
                due = due.multiply(java.math.BigInteger.valueOf(31)).add(java.math.BigInteger.valueOf(122));
            }
            Check.is("sum of " + (i + 1) + ", wrapped around", x.checksum(0), due.longValue());
            wasNegative |= x.checksum(0) < 0;
        }
        Check.is("it has wrapped around", wasNegative && due.bitLength() > 64, true);
    }
}
