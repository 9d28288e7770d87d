/** Promises 9 to 22. */
public final class SpellingTest {
    public static void main(String[] args) {
        promise9();
        promise9Places();
        promise9OrderAndOrigins();
        promise10();
        promise11();
        promise12();
        promise13And14();
        promise15();
        promise16();
        promise17();
        promise18();
        promise19();
        promise20();
        promise21();
        promise22();
        Check.end("SpellingTest");
    }

    private static void promise9() {
        Spellreform x = new Spellreform();
        int word = Check.addWord(x, "ted-es");
        int longest = Check.addWord(x, "eeeeeeeeeeeeeeee");
        Check.is("9 as sounds", x.letters(word, 0), 5);
        Check.putRule(x, "e-eau", 1);
        Check.is("9 by rules", x.letters(word, 1), 9);
        Check.is("9 longest", x.letters(longest, 1), 48);
        Check.isText("9 longest spelled", Check.spelling(x, longest, 1), "eau".repeat(16));
        Check.except(x, word, 1, "z");
        Check.is("9 exception", x.letters(word, 1), 1);
        Check.badArgument("9 orthography", () -> x.letters(word, 4));
        Check.badArgument("9 orthography -1", () -> x.letters(word, -1));
        Check.noIndex("9 word", () -> x.letters(2, 0));
        Check.noIndex("9 word first", () -> x.letters(-1, 4));
    }

    private static void promise9Places() {
        spells("anywhere", "tat-tat", "t-d", 'a', "daddad");
        spells("beginning", "tat-tat", "t-d", 'b', "datdat");
        spells("end", "tat-tat", "t-d", 'e', "tadtad");
        spells("between vowels", "tat-tat", "t-d", 'v', "tattat");
        spells("between vowels, morphemes", "tat-a-ta", "t-d", 'v', "tadada");
        spells("between vowels, no vowel behind", "at", "t-d", 'v', "at");
        spells("between vowels, no vowel ahead", "ta-r-ti", "t-d", 'v', "tarti");
        spells("all vowels", "a-ta-te-ti-to-tu", "t-d", 'v', "adadedidodu");
        spells("y is none", "ya-ty-ta", "t-d", 'v', "yatyta");
        spells("a vowel between vowels", "aaa", "a-o", 'v', "aoa");
        spells("not over -", "ta-ta", "at-xy", 'a', "tata");
        spells("sounds at the beginning", "tata-ta", "ta-xy", 'b', "xytaxy");
        spells("sounds at the end", "tata-ta", "ta-xy", 'e', "taxyxy");
        spells("whole morpheme", "ta", "ta-x", 'e', "x");
        spells("sounds between vowels", "atte-tto", "tt-x", 'v', "axexo");
        spells("goes on behind", "aaaaa", "aa-b", 'a', "bba");
        spells("goes on behind, three", "aaaaa", "aaa-xyz", 'a', "xyzaa");
        spells("letters are no sounds", "tt", "t-tt", 'a', "tttt");
        spells("end, longer than what is left", "at", "tt-x", 'a', "at");
    }

    private static void spells(String what, String word, String rule, char place, String due) {
        Spellreform x = new Spellreform();
        Check.addWord(x, word);
        x.force(2, Check.addRule(x, rule, place, -1), true);
        Check.isText("9 " + what, Check.spelling(x, 0, 2), due);
        Check.isText("9 " + what + ", elsewhere", Check.spelling(x, 0, 1), word.replace("-", ""));
    }

    private static void promise9OrderAndOrigins() {
        Spellreform x = new Spellreform();
        int own = Check.addWord(x, "tat", 0, 1, false);
        int loan = Check.addWord(x, "tat", 3, 1, true);
        int ta = Check.addRule(x, "ta-x", 'a', 3);
        int t = Check.addRule(x, "t-d", 'a', -1);
        int tat = Check.addRule(x, "tat-y", 'a', -1);
        x.force(1, tat, true);
        Check.isText("9 only rule", Check.spelling(x, own, 1), "y");
        x.force(1, t, true);
        Check.isText("9 lower number", Check.spelling(x, own, 1), "dad");
        x.force(1, ta, true);
        Check.isText("9 other origin", Check.spelling(x, own, 1), "dad");
        Check.isText("9 that origin, a name", Check.spelling(x, loan, 1), "xd");
        int later = Check.addWord(x, "ta-ta", 3, 1, false);
        Check.isText("9 word that came later", Check.spelling(x, later, 1), "xx");
        int forOwn = Check.addRule(x, "a-e", 'e', 0);
        x.force(0, forOwn, true);
        Check.isText("9 orthography 0, own", Check.spelling(x, Check.addWord(x, "ta"), 0), "te");
        Check.isText("9 orthography 0, loan", Check.spelling(x, later, 0), "tata");
    }

    private static void promise10() {
        Spellreform x = new Spellreform();
        int word = Check.addWord(x, "ta-d");
        Check.putRule(x, "a-oi", 1);
        Check.is("10 first", x.letterAt(word, 1, 0), 't');
        Check.is("10 by rule", x.letterAt(word, 1, 1), 'o');
        Check.is("10 by rule, second", x.letterAt(word, 1, 2), 'i');
        Check.is("10 last", x.letterAt(word, 1, 3), 'd');
        Check.is("10 elsewhere", x.letterAt(word, 0, 2), 'd');
        Check.noElement("10 index", () -> x.letterAt(word, 1, 4));
        Check.noElement("10 index elsewhere", () -> x.letterAt(word, 0, 3));
        Check.noElement("10 index -1", () -> x.letterAt(word, 1, -1));
        Check.noElement("10 index, great", () -> x.letterAt(word, 1, Integer.MAX_VALUE));
        Check.except(x, word, 1, "q");
        Check.is("10 exception", x.letterAt(word, 1, 0), 'q');
        Check.noElement("10 exception, index", () -> x.letterAt(word, 1, 1));
        Check.badArgument("10 orthography first", () -> x.letterAt(word, 4, 9));
        Check.noIndex("10 word first", () -> x.letterAt(1, 4, 9));
        Check.noIndex("10 word -1", () -> x.letterAt(-1, 0, 0));
    }

    private static void promise11() {
        Spellreform x = new Spellreform();
        int word = Check.addWord(x, "ta-tad");
        int d = Check.addRule(x, "d-t", 'b', -1);
        int ta = Check.addRule(x, "ta-xyz", 'a', -1);
        x.force(1, d, true);
        x.force(1, ta, true);
        int[] due = {ta, ta, ta, ta, -1};
        for (int sound = 0; sound < due.length; sound++) {
            Check.is("11 sound " + sound, x.ruleOf(word, 1, sound), due[sound]);
            Check.is("11 elsewhere " + sound, x.ruleOf(word, 0, sound), -1);
        }
        Check.noElement("11 sound 5", () -> x.ruleOf(word, 1, 5));
        Check.noElement("11 sound -1", () -> x.ruleOf(word, 1, -1));
        Check.except(x, word, 1, "qqqqqqqqq");
        Check.is("11 as if no exception", x.ruleOf(word, 1, 3), ta);
        Check.noElement("11 as if no exception, 5", () -> x.ruleOf(word, 1, 5));
        x.force(1, ta, false);
        Check.is("11 out of force", x.ruleOf(word, 1, 3), -1);
        Check.badArgument("11 orthography first", () -> x.ruleOf(word, -1, 9));
        Check.noIndex("11 word first", () -> x.ruleOf(1, 4, 9));
    }

    private static void promise12() {
        Spellreform x = new Spellreform();
        Check.addWord(x, "tat");
        Check.addWord(x, "ta", 1, 1, true);
        Check.addWord(x, "da");
        int first = Check.addRule(x, "ta-x", 'b', -1);
        int second = Check.addRule(x, "t-d", 'a', -1);
        x.force(3, first, true);
        x.force(3, second, true);
        Check.is("12 first", x.used(first, 3), 2);
        Check.is("12 second, in part", x.used(second, 3), 1);
        Check.is("12 elsewhere", x.used(first, 2), 0);
        Check.except(x, 0, 3, "tat");
        Check.is("12 exception", x.used(first, 3), 1);
        Check.except(x, 1, 2, "tat");
        Check.is("12 exception elsewhere", x.used(first, 3), 1);
        x.force(3, first, false);
        Check.is("12 out of force", x.used(first, 3), 0);
        Check.is("12 the other one steps in", x.used(second, 3), 1);
        Check.badArgument("12 orthography", () -> x.used(first, 4));
        Check.noIndex("12 rule first", () -> x.used(2, 4));
        Check.noIndex("12 rule -1", () -> x.used(-1, 0));
    }

    private static void promise13And14() {
        Spellreform x = new Spellreform();
        Check.addWord(x, "ta");
        Check.addWord(x, "da", 2, 9, true);
        Check.addWord(x, "t-a");
        Check.putRule(x, "d-t", 1);
        Check.type(x, "ta");
        Check.is("13 in 0", x.readings(0), 2);
        Check.is("13 in 1", x.readings(1), 3);
        Check.is("14 in 0", x.readingAt(0, 1), 2);
        Check.is("14 in 1", x.readingAt(1, 1), 1);
        Check.is("14 first", x.readingAt(1, 0), 0);
        Check.is("14 last", x.readingAt(1, 2), 2);
        Check.noElement("14 index", () -> x.readingAt(1, 3));
        Check.noElement("14 index -1", () -> x.readingAt(1, -1));
        Check.noElement("14 index, least", () -> x.readingAt(1, Integer.MIN_VALUE));
        Check.isText("13 buffer stays", Check.buffer(x), "ta");
        Check.badArgument("13 orthography", () -> x.readings(4));
        Check.badArgument("14 orthography", () -> x.readingAt(-1, 9));
        Check.type(x, "da");
        Check.is("13 none", x.readings(1), 0);
        Check.noElement("14 none", () -> x.readingAt(1, 0));
        Check.except(x, 0, 1, "zz");
        Check.type(x, "zz");
        Check.is("13 exception", x.readings(1), 1);
        Check.type(x, "ta");
        Check.is("13 not as the exception", x.readings(1), 2);
        for (String text : new String[] {"", "-", "t-a"}) {
            Check.type(x, text);
            Check.unsupported("13 " + text, () -> x.readings(1));
            Check.unsupported("14 before the index, " + text, () -> x.readingAt(1, 9));
            Check.badArgument("13 orthography first, " + text, () -> x.readings(4));
            Check.badArgument("14 orthography first, " + text, () -> x.readingAt(4, 9));
        }
    }

    private static void promise15() {
        Spellreform x = new Spellreform();
        Check.addWord(x, "ta-da");
        Check.addWord(x, "tata");
        Check.addWord(x, "eeeeeeeeeeeeeeee");
        Check.putRule(x, "d-t", 1);
        Check.putRule(x, "t-th", 2);
        Check.putRule(x, "e-eau", 2);
        Check.type(x, "tada");
        Check.is("15 converts", x.convert(0, 2), 5);
        Check.isText("15 converted", Check.buffer(x), "thada");
        Check.is("15 and back", x.convert(2, 0), 4);
        Check.isText("15 is back", Check.buffer(x), "tada");
        Check.is("15 the same one", x.convert(0, 0), 4);
        Check.is("15 into homographs", x.convert(0, 1), 4);
        Check.isText("15 homographs", Check.buffer(x), "tata");
        Check.badState("15 open", () -> x.convert(1, 0));
        Check.isText("15 open changes nothing", Check.buffer(x), "tata");
        Check.is("15 spelled alike there", x.convert(1, 1), 4);
        Check.type(x, "qq");
        Check.noElement("15 none", () -> x.convert(0, 1));
        Check.isText("15 none changes nothing", Check.buffer(x), "qq");
        Check.badArgument("15 from", () -> x.convert(4, 0));
        Check.badArgument("15 to", () -> x.convert(0, -1));
        for (String text : new String[] {"", "ta-da"}) {
            Check.type(x, text);
            Check.unsupported("15 buffer", () -> x.convert(0, 1));
            Check.badArgument("15 to, first", () -> x.convert(0, 4));
        }
        Check.type(x, "eeeeeeeeeeeeeeee");
        Check.is("15 longest", x.convert(0, 2), 48);
        Check.badState("15 more than 24 are there", () -> x.type('a'));
        Check.is("15 all are kept", x.signAt(47), 'u');
        Check.is("15 longest, back", x.convert(2, 0), 16);
        x.convert(0, 2);
        Check.unsupported("15 too long for an exception", () -> Check.number(x.except(0, 0)));
        Check.unsupported("15 too long for a word", () -> x.word(0, 1, false));
        Check.is("15 cleared", x.clear(), 48);
    }

    private static void promise16() {
        Spellreform x = new Spellreform();
        Check.noElement("16 empty", () -> x.signAt(0));
        Check.type(x, "a-z");
        Check.is("16 first", x.signAt(0), 'a');
        Check.is("16 -", x.signAt(1), '-');
        Check.is("16 last", x.signAt(2), 'z');
        Check.noElement("16 behind", () -> x.signAt(3));
        Check.noElement("16 -1", () -> x.signAt(-1));
        Check.noElement("16 great", () -> x.signAt(Integer.MAX_VALUE));
        x.clear();
        Check.noElement("16 cleared", () -> x.signAt(0));
    }

    private static void promise17() {
        Spellreform x = new Spellreform();
        Check.addWord(x, "ta");
        Check.is("17 one word", x.homographs(0), 0);
        Check.addWord(x, "t-a", 1, 5, true);
        Check.addWord(x, "da");
        Check.addWord(x, "tat");
        Check.is("17 a pair, by sounds", x.homographs(0), 1);
        Check.putRule(x, "d-t", 1);
        Check.is("17 three alike", x.homographs(1), 3);
        Check.except(x, 3, 1, "ta");
        Check.is("17 four alike", x.homographs(1), 6);
        Check.is("17 not elsewhere", x.homographs(0), 1);
        Check.badArgument("17 orthography", () -> x.homographs(4));
        Check.badArgument("17 orthography -1", () -> x.homographs(-1));
    }

    private static void promise18() {
        Spellreform x = new Spellreform();
        Check.addWord(x, "ta");
        Check.addWord(x, "da");
        Check.addWord(x, "ta");
        Check.putRule(x, "d-t", 1);
        Check.is("18 lost", x.lost(0, 1), 2);
        Check.is("18 the other way", x.lost(1, 0), 0);
        Check.is("18 the same", x.lost(1, 1), 0);
        Check.except(x, 0, 1, "da");
        Check.is("18 none but an old pair", x.lost(0, 1), 1);
        Check.is("18 a pair that is apart there", x.lost(1, 0), 1);
        Check.badArgument("18 first", () -> x.lost(4, 0));
        Check.badArgument("18 second", () -> x.lost(0, -1));
    }

    private static void promise19() {
        Spellreform x = new Spellreform();
        String[] texts = {"ta", "tab", "t-a", "da", "a", "z", "ab"};
        int[] due = {3, 5, 4, 2, 0, 6, 1};
        for (String text : texts) {
            Check.addWord(x, text);
        }
        for (int i = 0; i < due.length; i++) {
            Check.is("19 rank of " + texts[i], x.rank(i, 0), due[i]);
        }
        Check.except(x, 5, 1, "aa");
        Check.is("19 exception", x.rank(5, 1), 1);
        Check.is("19 behind it", x.rank(6, 1), 2);
        Check.is("19 ahead of it", x.rank(4, 1), 0);
        Check.badArgument("19 orthography", () -> x.rank(0, 4));
        Check.noIndex("19 word first", () -> x.rank(7, 4));
        Check.noIndex("19 word -1", () -> x.rank(-1, 0));
    }

    private static void promise20() {
        Spellreform x = new Spellreform();
        Check.is("20 no words", x.moved(0, 3), 0);
        Check.addWord(x, "a");
        Check.addWord(x, "b");
        Check.addWord(x, "c", 0, 1, true);
        Check.addWord(x, "d");
        Check.is("20 none", x.moved(0, 1), 0);
        Check.except(x, 0, 1, "bb");
        Check.is("20 two", x.moved(0, 1), 2);
        Check.is("20 two, the other way", x.moved(1, 0), 2);
        Check.except(x, 0, 1, "cc");
        Check.is("20 three", x.moved(0, 1), 3);
        Check.is("20 the same", x.moved(1, 1), 0);
        Check.except(x, 0, 1, "aa");
        Check.is("20 spelled otherwise, ranked alike", x.moved(0, 1), 0);
        Check.badArgument("20 first", () -> x.moved(-1, 0));
        Check.badArgument("20 second", () -> x.moved(0, 4));
    }

    private static void promise21() {
        breaksAre("teddez", 3);
        breaksAre("tata", 2);
        breaksAre("tat");
        breaksAre("ata");
        breaksAre("atat");
        breaksAre("aata", 2);
        breaksAre("tra");
        breaksAre("stata", 3);
        breaksAre("strata", 4);
        breaksAre("tatata", 2, 4);
        breaksAre("tatatatatatatata", 2, 4, 6, 8, 10, 12, 14);
        breaksAre("aaaa");
        breaksAre("atta", 2);
        breaksAre("attra", 3);
        breaksAre("yyyyta");
        breaksAre("aaya", 2);
        breaksAre("uuti", 2);
        breaksAre("iito", 2);
        breaksAre("oote", 2);
        breaksAre("eetu", 2);
        breaksAre("aaty");
        Spellreform x = new Spellreform();
        Check.addWord(x, "tt-ta");
        Check.is("21 no vowel ahead", x.breaks(0, 0), 0);
        Check.addWord(x, "ta-ta");
        Check.putRule(x, "t-r", 1);
        Check.putRule(x, "a-ya", 1);
        Check.isText("21 by rules", Check.spelling(x, 1, 1), "ryarya");
        Check.is("21 by rules, places", x.breaks(1, 1), 1);
        Check.badArgument("21 orthography", () -> x.breaks(0, 4));
        Check.noIndex("21 word first", () -> x.breaks(2, 4));
        Check.noIndex("21 word -1", () -> x.breaks(-1, 0));
    }

    private static void breaksAre(String text, int... places) {
        Spellreform x = new Spellreform();
        Check.addWord(x, "q");
        Check.except(x, 0, 2, text);
        Check.is("21 " + text, x.breaks(0, 2), places.length);
        for (int i = 0; i < places.length; i++) {
            int index = i;
            Check.is("22 " + text + " at " + index, x.breakAt(0, 2, index), places[index]);
        }
        Check.noElement("22 " + text + " has no more", () -> x.breakAt(0, 2, places.length));
        Check.is("21 not elsewhere", x.breaks(0, 1), 0);
    }

    private static void promise22() {
        Spellreform x = new Spellreform();
        Check.addWord(x, "tatata");
        Check.is("22 first", x.breakAt(0, 0, 0), 2);
        Check.is("22 second", x.breakAt(0, 0, 1), 4);
        Check.noElement("22 index", () -> x.breakAt(0, 0, 2));
        Check.noElement("22 index -1", () -> x.breakAt(0, 0, -1));
        Check.noElement("22 index, least", () -> x.breakAt(0, 0, Integer.MIN_VALUE));
        Check.badArgument("22 orthography first", () -> x.breakAt(0, 4, 9));
        Check.noIndex("22 word first", () -> x.breakAt(1, 4, 9));
    }
}
