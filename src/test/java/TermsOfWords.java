/** Words, rules and clashes. */
final class TermsOfWords {
    private static final String LETTERS = "abcdefghijklmnopqrstuvwxyz";
    private static final String PLACES = "abev";

    private TermsOfWords() {
    }

    static void test(Sentences s) {
        s.test("Words, rules, votes, decrees, texts and readers come by calls;", TermsOfWords::calls);
        s.test("spellings, conversions, losses, costs and verdicts are asked.", TermsOfWords::asked);
        s.test("At most 40 words are numbered from 0, each told by a text of 1 to 16 signs, typed into a"
                + " buffer:", TermsOfWords::words);
        s.test("its sounds, a to z, in morphemes with - between, none of them empty.",
                TermsOfWords::morphemes);
        s.test("It has an origin, 0 its own, 1 to 4 loans, a use, and can be a name, which is free.",
                TermsOfWords::origins);
        s.test("The vowels are a, e, i, o and u.", TermsOfWords::vowels);
        s.test("At most 40 rules are numbered from 0:", TermsOfWords::rules);
        s.test("some sounds, 1 to 3, are spelled as some letters, 1 to 3, in a place:",
                TermsOfWords::lengths);
        s.test("'a' anywhere, 'b' at the beginning of a morpheme, 'e' at its end, 'v' between vowels, the"
                + " sound ahead of it and the one behind it in the word being some;",
                TermsOfWords::places);
        s.test("and for an origin, or for all.", TermsOfWords::originsOfRules);
        s.test("There are the orthographies 0 to 3;", TermsOfWords::orthographies);
        s.test("a rule is in force in each of these in which it was put.", TermsOfWords::inForce);
        s.test("Two rules clash, if they have the same sounds and other letters, their places are the"
                + " same, or one is 'a', and their origins are the same, or one is for all.",
                TermsOfWords::clashes);
        s.test("An orthography has never two rules in force that clash.", TermsOfWords::noClash);
        s.test("No two rules demand unlike letters at one place.", TermsOfWords::sound);
    }

    private static void calls() {
        Spellreform x = new Spellreform();
        Check.noIndex("no word", () -> x.letters(0, 0));
        Check.noIndex("no rule", () -> x.vote(0, 0, true));
        Check.noIndex("no decree", () -> Check.number(x.strike(0, true)));
        Check.noElement("no text", () -> x.adoption(0, 0));
        Check.noIndex("no reader", () -> x.mistakes(0, 0));
        Check.is("the word 0", Check.addWord(x, "a"), 0);
        Check.is("the rule 0", Check.addRule(x, "a-e", 'a', -1), 0);
        Check.is("a vote", x.vote(0, 0, true), 1);
        Check.is("the decree 0", x.decree(0, 0), 0);
        Check.type(x, "a");
        Check.is("a text", x.collect(0, 0), 1);
        Check.is("the reader 0", x.reader(), 0);
    }

    private static void asked() {
        Spellreform x = Example.rich("oi");
        Check.is("letters", x.letters(0, 1), 6);
        Check.is("letterAt", x.letterAt(0, 1, 5), 's');
        Check.is("ruleOf", x.ruleOf(0, 1, 0), 0);
        Check.is("used", x.used(0, 1), 2);
        Check.is("readings", x.readings(3), 2);
        Check.is("readingAt", x.readingAt(3, 1), 4);
        Check.is("homographs", x.homographs(0), 1);
        Check.is("lost", x.lost(0, 1), 0);
        Check.is("rank", x.rank(4, 0), 1);
        Check.is("moved", x.moved(0, 1), 2);
        Check.is("breaks", x.breaks(0, 0), 1);
        Check.is("breakAt", x.breakAt(0, 0, 0), 2);
        Check.is("score", x.score('s', 0), 1257);
        Check.is("cost", x.cost(0, 1), 250);
        Check.is("right", x.right(2000), 2);
        Check.is("borne", x.borne(2000), 0);
        Check.is("judge", x.judge(4, 2000, 0), 'r');
        Check.is("mistakes", x.mistakes(1, 2000), 250);
        Check.is("adoption", x.adoption(0, 2000), 500);
        Check.is("checksum", x.checksum(0) == x.checksum(3), true);
        Check.isNumber("soundShare", x.soundShare(0), 1.0f);
        Check.isNumber("meanLetters", x.meanLetters(0), 16.0 / 5.0);
        Check.isText("asking changes nothing", Probe.story(x), Probe.story(Example.rich("oi")));
    }

    private static void words() {
        Spellreform x = new Spellreform();
        Check.type(x, "");
        Check.unsupported("no signs", () -> x.word(0, 1, false));
        Check.is("1 sign", Check.addWord(x, "q"), 0);
        Check.is("16 signs", Check.addWord(x, "abcdefghijklmnop"), 1);
        Check.is("16 signs, with -", Check.addWord(x, "abc-def-ghi-jklm"), 2);
        Check.type(x, "abcdefghijklmnopq");
        Check.unsupported("17 signs", () -> x.word(0, 1, false));
        Check.type(x, "abc-def-ghi-jklmn");
        Check.unsupported("17 signs, with -", () -> x.word(0, 1, false));
        for (int i = 3; i < 39; i++) {
            Check.is("next number", Check.addWord(x, "a"), i);
        }
        Check.is("the 40th", Check.addWord(x, "z-z"), 39);
        Check.type(x, "b");
        Check.badState("the 41st", () -> x.word(0, 1, false));
        Check.isText("the 40th is spelled", Check.spelling(x, 39, 3), "zz");
        Check.noIndex("there is no 41st", () -> x.letters(40, 0));
        Check.is("rank of the 40th", x.rank(39, 0), 39);
        x.reader();
        Check.is("the 40th is written", x.write(0, 39), 2);
        Check.is("the 40th is judged", x.judge(39, 0, 0), 'r');
        Check.is("the 40th is read", x.readingAt(0, 0), 39);
        Check.is("the 40th is collected", x.collect(39, 0), 1);
    }

    private static void morphemes() {
        for (char letter : LETTERS.toCharArray()) {
            Spellreform x = new Spellreform();
            Check.is("a word of " + letter, Check.addWord(x, letter + "-" + letter), 0);
            Check.isText("its spelling", Check.spelling(x, 0, 0), "" + letter + letter);
        }
        wordIs("a-b", true);
        wordIs("a-b-c-d-e-f-g-h", true);
        wordIs("a-b-c-d-e-f-g-hi", true);
        wordIs("-", false);
        wordIs("-a", false);
        wordIs("a-", false);
        wordIs("a--b", false);
        wordIs("a-b--c", false);
        wordIs("a-b-c-d-e-f-g-h-", false);
        wordIs("-a-b-c-d-e-f-g-h", false);
    }

    private static void wordIs(String text, boolean isOne) {
        Spellreform x = Example.typed(text);
        if (isOne) {
            Check.is(text, x.word(0, 1, false), 0);
            Check.isText(text, Check.spelling(x, 0, 0), text.replace("-", ""));
        } else {
            Check.unsupported(text, () -> x.word(0, 1, false));
        }
    }

    private static void origins() {
        Spellreform x = new Spellreform();
        int uses = 0;
        for (int origin = 0; origin <= 4; origin++) {
            Check.addWord(x, "ta", origin, origin == 4 ? 999 : 1 + origin, origin == 2);
            uses += origin == 0 ? 0 : origin == 4 ? 999 : 1 + origin;
            Check.is("loans up to " + origin, x.score('h', 1), uses);
        }
        Check.is("its own and loans", x.score('s', 1), uses + 1);
        Check.type(x, "qqq");
        Check.is("no name", x.judge(1, 0, 0), 'w');
        Check.is("a name is free", x.judge(2, 0, 0), 'n');
        Check.putRule(x, "t-d", 1);
        Check.is("cost, but for the name", x.cost(0, 1), uses + 1 - 3);
        for (int wrong : new int[] {-1, 5}) {
            Check.badArgument("origin " + wrong, () -> x.word(wrong, 1, false));
        }
        for (int wrong : new int[] {0, 1000}) {
            Check.badArgument("use " + wrong, () -> x.word(0, wrong, false));
        }
    }

    private static void vowels() {
        for (char letter : LETTERS.toCharArray()) {
            boolean isVowel = "aeiou".indexOf(letter) >= 0;
            Spellreform x = new Spellreform();
            Check.addWord(x, letter + "ta");
            Check.addWord(x, "at" + letter);
            x.force(0, Check.addRule(x, "t-yy", 'v', -1), true);
            Check.is("v, behind " + letter, x.letters(0, 0), isVowel ? 4 : 3);
            Check.is("v, ahead of " + letter, x.letters(1, 0), isVowel ? 4 : 3);
            Check.except(x, 0, 1, letter + "xta");
            Check.is("a break behind " + letter, x.breaks(0, 1), isVowel ? 1 : 0);
            Check.except(x, 0, 1, "aa" + letter + "a");
            Check.is("a break ahead of " + letter, x.breaks(0, 1), isVowel ? 0 : 1);
            Check.except(x, 0, 1, "aat" + letter);
            Check.is("a break two ahead of " + letter, x.breaks(0, 1), isVowel ? 1 : 0);
        }
    }

    private static void rules() {
        Spellreform x = new Spellreform();
        Check.addWord(x, "a-z");
        for (int i = 0; i < 39; i++) {
            Check.is("next number", Check.addRule(x, "q-x", 'a', -1), i);
        }
        Check.is("the 40th", Check.addRule(x, "z-s", 'a', -1), 39);
        Check.type(x, "z-s");
        Check.badState("the 41st", () -> x.rule('a', -1));
        Check.is("a vote for the 40th", x.vote(5, 39, true), 1);
        Check.is("the 40th is not barred", x.bar(5, 39, false), false);
        Check.is("the 40th in a draft", x.draft(3, 39), 1);
        Check.is("the 40th in force", x.force(3, 39, true), false);
        Check.is("the 40th spells", x.ruleOf(0, 3, 1), 39);
        Check.is("the 40th is used", x.used(39, 3), 1);
        Check.is("the 40th in a clash", x.clash(39, 38), false);
        Check.noIndex("there is no 41st", () -> x.used(40, 3));
    }

    private static void lengths() {
        for (int sounds = 0; sounds <= 4; sounds++) {
            for (int letters = 0; letters <= 4; letters++) {
                String text = "t".repeat(sounds) + "-" + "d".repeat(letters);
                Spellreform x = new Spellreform();
                Check.addWord(x, "t".repeat(Math.max(1, sounds)));
                Check.type(x, text);
                if (sounds < 1 || sounds > 3 || letters < 1 || letters > 3) {
                    Check.unsupported(text, () -> x.rule('a', -1));
                } else {
                    Check.is(text, x.rule('a', -1), 0);
                    x.force(0, 0, true);
                    Check.isText(text, Check.spelling(x, 0, 0), "d".repeat(letters));
                }
            }
        }
    }

    private static void places() {
        spelledBy("tat-t-ata", "t-d", "daddada", "datdata", "taddata", "tattada");
        spelledBy("t", "t-d", "d", "d", "d", "t");
        spelledBy("a-t-a", "t-d", "ada", "ada", "ada", "ada");
        spelledBy("ta-t", "t-d", "dad", "dad", "tad", "tat");
        spelledBy("t-at", "t-d", "dad", "dat", "dad", "tat");
        spelledBy("ata", "t-d", "ada", "ata", "ata", "ada");
        spelledBy("at-ra", "t-d", "adra", "atra", "adra", "atra");
        spelledBy("ar-ta", "t-d", "arda", "arda", "arta", "arta");
        spelledBy("a-tat-a", "tat-x", "axa", "axa", "axa", "axa");
        spelledBy("tatat", "tat-x", "xat", "xat", "tax", "tatat");
        spelledBy("atat", "at-x", "xx", "xat", "atx", "atat");
        spelledBy("a-ta-t", "ta-x", "axt", "axt", "axt", "atat");
        spelledBy("aaa", "a-o", "ooo", "oaa", "aao", "aoa");
        spelledBy("a-a-a", "a-o", "ooo", "ooo", "ooo", "aoa");
    }

    /** What is due by a rule in the places a, b, e and v. */
    private static void spelledBy(String word, String rule, String... due) {
        for (int i = 0; i < PLACES.length(); i++) {
            Spellreform x = new Spellreform();
            Check.addWord(x, word);
            x.force(0, Check.addRule(x, rule, PLACES.charAt(i), -1), true);
            Check.isText(word + " by " + rule + " " + PLACES.charAt(i), Check.spelling(x, 0, 0), due[i]);
        }
    }

    private static void originsOfRules() {
        for (int origin = -1; origin <= 4; origin++) {
            Spellreform x = new Spellreform();
            x.force(0, Check.addRule(x, "t-d", 'a', origin), true);
            for (int word = 0; word <= 4; word++) {
                Check.addWord(x, "t", word, 1, false);
                Check.is("a rule for " + origin + ", a word of " + word, x.ruleOf(word, 0, 0),
                        origin == -1 || origin == word ? 0 : -1);
            }
        }
        Spellreform x = Example.typed("t-d");
        Check.badArgument("origin 5", () -> x.rule('a', 5));
        Check.badArgument("origin -2", () -> x.rule('a', -2));
    }

    private static void orthographies() {
        Spellreform x = Example.rich("oi");
        for (int o = 0; o <= 3; o++) {
            Check.is("spelled in " + o, x.letters(0, o) > 0, true);
        }
        for (int wrong : new int[] {-1, 4, Integer.MIN_VALUE, Integer.MAX_VALUE}) {
            Check.badArgument("orthography " + wrong, () -> x.letters(0, wrong));
        }
    }

    private static void inForce() {
        Spellreform x = new Spellreform();
        Check.addWord(x, "t");
        Check.addRule(x, "t-d", 'a', -1);
        // The bits of the number tell in which orthographies the rule is to be.
        for (int which = 0; which < 16; which++) {
            for (int o = 0; o < 4; o++) {
                x.force(o, 0, (which >> o & 1) == 1);
            }
            for (int o = 0; o < 4; o++) {
                Check.is("in force in " + o + " of " + which, x.used(0, o), which >> o & 1);
            }
        }
    }

    private static void clashes() {
        for (int places = 0; places < 16; places++) {
            for (int origins = 0; origins < 36; origins++) {
                clashesOfAll(PLACES.charAt(places / 4), PLACES.charAt(places % 4),
                        origins / 6 - 1, origins % 6 - 1);
            }
        }
    }

    private static void clashesOfAll(char place, char other, int origin, int otherOrigin) {
        Spellreform x = new Spellreform();
        Check.addRule(x, "ta-d", place, origin);
        Check.addRule(x, "ta-s", other, otherOrigin);
        Check.addRule(x, "ta-d", other, otherOrigin);
        Check.addRule(x, "ta-ds", other, otherOrigin);
        Check.addRule(x, "t-s", other, otherOrigin);
        Check.addRule(x, "tat-s", other, otherOrigin);
        boolean meet = (place == other || place == 'a' || other == 'a')
                && (origin == otherOrigin || origin == -1 || otherOrigin == -1);
        String what = place + " " + origin + ", " + other + " " + otherOrigin;
        Check.is("other letters, " + what, x.clash(0, 1), meet);
        Check.is("other letters, turned, " + what, x.clash(1, 0), meet);
        Check.is("the same letters, " + what, x.clash(0, 2), false);
        Check.is("more letters, " + what, x.clash(0, 3), meet);
        Check.is("less letters, " + what, x.clash(3, 0), meet);
        Check.is("less sounds, " + what, x.clash(0, 4), false);
        Check.is("more sounds, " + what, x.clash(0, 5), false);
        Check.is("itself, " + what, x.clash(0, 0), false);
        x.force(2, 0, true);
        if (meet) {
            Check.unsupported("force, " + what, () -> Check.number(x.force(2, 1, true)));
            Check.unsupported("force, more letters, " + what, () -> Check.number(x.force(2, 3, true)));
        } else {
            Check.is("force, " + what, x.force(2, 1, true), false);
        }
        x.force(3, 0, true);
        Check.is("force, the same letters, " + what, x.force(3, 2, true), false);
        Check.is("force, less sounds, " + what, x.force(3, 4, true), false);
        Check.is("force, more sounds, " + what, x.force(3, 5, true), false);
    }

    private static void noClash() {
        Spellreform x = new Spellreform();
        int first = Check.putRule(x, "t-d", 1);
        int second = Check.addRule(x, "t-s", 'e', 4);
        Check.unsupported("in force", () -> Check.number(x.force(1, second, true)));
        Check.is("was not put", x.force(1, second, false), false);
        Check.is("put once more", x.force(1, first, true), true);
        Check.is("elsewhere", x.force(0, second, true), false);
        Check.is("taken out", x.force(1, first, false), true);
        Check.is("the other one", x.force(1, second, true), false);
        Check.unsupported("now the first one", () -> Check.number(x.force(1, first, true)));
        for (int state = 0; state < 6; state++) {
            x.vote(state, first, true);
        }
        x.draft(1, first);
        Check.is("nor by a hearing", x.hear(1), 0);
        Check.is("it is not put", x.force(1, first, false), false);
    }

    private static void sound() {
        Spellreform x = new Spellreform();
        Check.is("without rules", x.isSound(), true);
        Check.addWord(x, "t");
        int begin = Check.addRule(x, "t-d", 'b', -1);
        int end = Check.addRule(x, "t-s", 'e', -1);
        x.force(0, end, true);
        x.force(0, begin, true);
        Check.is("two rules that do not clash", x.isSound(), true);
        Check.isText("the first one spells", Check.spelling(x, 0, 0), "d");
        Check.addRule(x, "t-r", 'a', -1);
        Check.unsupported("one that clashes", () -> Check.number(x.force(0, 2, true)));
        Check.is("is not put", x.isSound(), true);
    }
}
