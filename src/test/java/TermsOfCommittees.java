/** Goals, committees, decrees and judging. */
final class TermsOfCommittees {
    private TermsOfCommittees() {
    }

    static void test(Sentences s) {
        s.test("A school's score of an orthography is:", TermsOfCommittees::schools);
        s.test("'s', by sound, the use of all words that are spelled as they sound;",
                TermsOfCommittees::bySound);
        s.test("'t', by stem, the number of pairs of words with the same first morpheme for which this,"
                + " spelled by itself with the origin of each of both, is spelled alike;",
                TermsOfCommittees::byStem);
        s.test("'h', by history, the use of all loans that are spelled as in the orthography 0.",
                TermsOfCommittees::byHistory);
        s.test("Names count for schools, too.", TermsOfCommittees::namesInSchools);
        s.test("The cost of a change from an orthography to another one is the use of all words that are"
                + " spelled otherwise there, names aside.", TermsOfCommittees::costs);
        s.test("The states 0 to 5 sit in the committee;", TermsOfCommittees::states);
        s.test("they vote for rules, or not, and can bar a rule.", TermsOfCommittees::votes);
        s.test("A draft takes rules to be put into an orthography, in a row, each once.",
                TermsOfCommittees::drafts);
        s.test("A hearing goes through the row:", TermsOfCommittees::hearings);
        s.test("a rule that is barred, or has at most half of the votes, 3 of 6, is taken out of it;",
                TermsOfCommittees::takenOut);
        s.test("one that clashes with what is in force there stays in the row;", TermsOfCommittees::stays);
        s.test("the others are put in force, and leave it;", TermsOfCommittees::others);
        s.test("one that is in force by then counts, too.", TermsOfCommittees::inForceByThen);
        s.test("A rule that is in force by the time of a hearing, but is barred or has not the votes, leaves"
                + " the row, does not count, and stays in force.", TermsOfCommittees::inForceButRefused);
        s.test("A decree puts an orthography into force from a year on, for all;",
                TermsOfCommittees::fromAYearOn);
        s.test("at most 12 are numbered from 0.", TermsOfCommittees::decrees);
        s.test("The court can strike a decree down, and raise it again.", TermsOfCommittees::strikes);
        s.test("In a year, the orthography of the decree with the greatest year up to it, of several the last"
                + " one told, is right, the orthography 0 without one;", TermsOfCommittees::right);
        s.test("the one that was right in the year ahead of that of this decree is still borne for the years"
                + " of grace, 5 at first, from the year of the decree on, if it is another one;",
                TermsOfCommittees::borne);
        s.test("none is for a decree of the year 0, or without one.", TermsOfCommittees::borneByNone);
        s.test("A house, 0 to 7, can keep to an orthography of its own.", TermsOfCommittees::houses);
        s.test("A text for a word in a year in a house is judged:", TermsOfCommittees::judged);
        s.test("'n' if the word is a name;", TermsOfCommittees::judgedNames);
        s.test("otherwise 'r' right, if it is spelled so in the orthography of the house, or, if it keeps to"
                + " none, in the right one;", TermsOfCommittees::judgedRight);
        s.test("'o' old, if it keeps to none, and it is spelled so in the one that is borne;",
                TermsOfCommittees::judgedOld);
        s.test("otherwise 'w' wrong.", TermsOfCommittees::judgedWrong);
    }

    private static void schools() {
        Spellreform x = new Spellreform();
        for (char school : "sth".toCharArray()) {
            for (int o = 0; o < 4; o++) {
                Check.is("without words, " + school, x.score(school, o), 0);
            }
        }
        Check.badArgument("another school", () -> x.score('u', 0));
        Check.badArgument("a great letter", () -> x.score('S', 0));
    }

    private static void bySound() {
        Spellreform x = new Spellreform();
        for (int i = 0; i < 40; i++) {
            Check.addWord(x, "ta", i % 5, 999, i % 2 == 0);
        }
        Check.is("all", x.score('s', 1), 40 * 999);
        int rule = Check.putRule(x, "t-d", 1);
        Check.is("none", x.score('s', 1), 0);
        Check.except(x, 39, 1, "ta");
        Check.is("one, by an exception", x.score('s', 1), 999);
        x.force(1, rule, false);
        Check.except(x, 39, 1, "t");
        Check.is("all but one", x.score('s', 1), 39 * 999);
    }

    private static void byStem() {
        Spellreform x = Example.fullOfWords("");
        Check.is("all pairs of 40", x.score('t', 0), 40 * 39 / 2);
        Spellreform y = new Spellreform();
        Check.addWord(y, "ta", 0, 1, false);
        Check.is("one word", y.score('t', 1), 0);
        Check.addWord(y, "ta-t", 0, 1, false);
        Check.is("one morpheme and two", y.score('t', 1), 1);
        Check.addWord(y, "tat", 0, 1, false);
        Check.addWord(y, "t-a", 0, 1, false);
        Check.addWord(y, "da-ta", 0, 1, false);
        Check.is("a longer one, a shorter one, a second one", y.score('t', 1), 1);
        Check.addWord(y, "ta-ta", 1, 1, false);
        Check.is("of another origin", y.score('t', 1), 3);
        int rule = Check.addRule(y, "t-d", 'a', 1);
        y.force(1, rule, true);
        Check.is("spelled unlike by its origin", y.score('t', 1), 1);
        Check.is("not elsewhere", y.score('t', 0), 3);
        int end = Check.addRule(y, "a-o", 'e', 0);
        y.force(2, end, true);
        Check.is("of the own ones, the end", y.score('t', 2), 1);
        int loan = Check.addRule(y, "ta-to", 'b', 1);
        y.force(2, loan, true);
        Check.is("alike by unlike rules", y.score('t', 2), 3);
        int between = Check.addRule(y, "a-e", 'v', -1);
        y.force(3, between, true);
        Check.is("by itself", y.score('t', 3), 3);
        Check.except(y, 0, 3, "q");
        Check.is("an exception", y.score('t', 3), 3);
    }

    private static void byHistory() {
        Spellreform x = new Spellreform();
        Check.addWord(x, "ta", 0, 1, false);
        Check.is("no loans", x.score('h', 1), 0);
        Check.addWord(x, "ta", 1, 10, false);
        Check.addWord(x, "da", 4, 100, false);
        Check.is("the loans", x.score('h', 1), 110);
        Check.putRule(x, "t-d", 1);
        Check.is("one is spelled otherwise", x.score('h', 1), 100);
        Check.is("all in the orthography 0", x.score('h', 0), 110);
        x.force(0, 0, true);
        Check.is("0 has changed, too", x.score('h', 1), 110);
        Check.is("but not another one", x.score('h', 2), 100);
        Check.except(x, 2, 0, "d");
        Check.is("an exception in 0", x.score('h', 1), 10);
        Check.except(x, 2, 3, "d");
        Check.is("the same one elsewhere", x.score('h', 3), 100);
    }

    private static void namesInSchools() {
        Spellreform x = new Spellreform();
        Check.addWord(x, "ta", 1, 5, true);
        Check.addWord(x, "ta-t", 2, 50, true);
        Check.is("s", x.score('s', 0), 55);
        Check.is("t", x.score('t', 0), 1);
        Check.is("h", x.score('h', 0), 55);
        Check.is("but not for costs", x.cost(0, 1), 0);
    }

    private static void costs() {
        Spellreform x = new Spellreform();
        Check.is("without words", x.cost(0, 3), 0);
        for (int i = 0; i < 40; i++) {
            Check.addWord(x, "ta", i % 5, 999, false);
        }
        Check.is("none", x.cost(0, 3), 0);
        Check.putRule(x, "t-d", 3);
        Check.is("all", x.cost(0, 3), 40 * 999);
        Check.is("all, back", x.cost(3, 0), 40 * 999);
        Check.is("to itself", x.cost(3, 3), 0);
        Spellreform y = new Spellreform();
        Check.addWord(y, "ta", 0, 999, true);
        Check.addWord(y, "ta", 0, 1, false);
        Check.putRule(y, "t-d", 3);
        Check.is("but for the name", y.cost(0, 3), 1);
    }

    private static void states() {
        Spellreform x = new Spellreform();
        Check.addRule(x, "t-d", 'a', -1);
        for (int i = 0; i < 6; i++) {
            Check.is("votes up to " + i, x.vote(i, 0, true), i + 1);
            Check.is("bars " + i, x.bar(i, 0, true), false);
        }
        for (int wrong : new int[] {-1, 6, 32, Integer.MIN_VALUE, Integer.MAX_VALUE}) {
            Check.badArgument("vote of " + wrong, () -> x.vote(wrong, 0, true));
            Check.badArgument("bar of " + wrong, () -> Check.number(x.bar(wrong, 0, true)));
        }
        for (int i = 0; i < 6; i++) {
            Check.is("votes from " + i, x.vote(i, 0, false), 5 - i);
            Check.is("barred " + i, x.bar(i, 0, false), true);
        }
    }

    private static void votes() {
        Spellreform x = new Spellreform();
        Check.addRule(x, "t-d", 'a', -1);
        Check.addRule(x, "t-d", 'a', -1);
        Check.is("one not for it", x.vote(2, 0, false), 0);
        Check.is("for it", x.vote(2, 0, true), 1);
        Check.is("for it twice", x.vote(2, 0, true), 1);
        Check.is("not for another rule", x.vote(3, 1, true), 1);
        Check.is("no more", x.vote(2, 0, false), 0);
        Check.is("bars, and votes", x.bar(3, 1, true), false);
        Check.is("the vote stays", x.vote(3, 1, true), 1);
        Check.is("the bar stays", x.bar(3, 1, true), true);
        Check.is("of another state, none", x.bar(2, 1, false), false);
        Check.is("of another rule, none", x.bar(3, 0, false), false);
    }

    private static void drafts() {
        Spellreform x = Example.fullOfRules("");
        for (int i = 39; i >= 0; i--) {
            Check.is("in the row", x.draft(2, i), 40 - i);
        }
        Check.unsupported("once more, the first", () -> x.draft(2, 39));
        Check.unsupported("once more, the last", () -> x.draft(2, 0));
        Check.is("at its beginning", x.draftAt(2, 0), 39);
        Check.is("at its end", x.draftAt(2, 39), 0);
        Check.noElement("behind its end", () -> x.draftAt(2, 40));
        Check.noElement("ahead of its beginning", () -> x.draftAt(2, -1));
        Check.noElement("not for another one", () -> x.draftAt(3, 0));
        Check.is("for another one", x.draft(3, 0), 1);
        Check.is("without votes", x.hear(2), 0);
        Check.noElement("all are taken out", () -> x.draftAt(2, 0));
        Check.is("taken anew", x.draft(2, 39), 1);
    }

    /** Adds a rule that all states vote for, and takes it into a draft. */
    private static int drafted(Spellreform x, int orthography, String text, int votes) {
        int rule = Check.addRule(x, text, 'a', -1);
        for (int state = 0; state < votes; state++) {
            x.vote(state, rule, true);
        }
        x.draft(orthography, rule);
        return rule;
    }

    private static void hearings() {
        Spellreform x = new Spellreform();
        Check.is("without rules", x.hear(0), 0);
        drafted(x, 0, "t-d", 4);
        Check.is("an empty row", x.hear(1), 0);
        Check.is("one", x.hear(0), 1);
        Check.is("it is empty now", x.hear(0), 0);
        Spellreform y = new Spellreform();
        for (int i = 0; i < 30; i++) {
            drafted(y, 3, "t-d", 4);
        }
        Check.is("a long row", y.hear(3), 30);
        Check.noElement("a long row has left", () -> y.draftAt(3, 0));
        Check.is("the first one", y.force(3, 0, true), true);
        Check.is("the last one", y.force(3, 29, true), true);
    }

    private static void takenOut() {
        for (int votes = 0; votes <= 6; votes++) {
            Spellreform x = new Spellreform();
            int rule = drafted(x, 1, "t-d", votes);
            Check.is(votes + " votes", x.hear(1), votes > 3 ? 1 : 0);
            Check.is(votes + " votes, in force", x.force(1, rule, false), votes > 3);
            Check.noElement(votes + " votes, the row", () -> x.draftAt(1, 0));
        }
        for (int state = 0; state < 6; state++) {
            Spellreform x = new Spellreform();
            int rule = drafted(x, 1, "t-d", 6);
            x.bar(state, rule, true);
            Check.is("barred by " + state, x.hear(1), 0);
            Check.is("barred by " + state + ", in force", x.force(1, rule, false), false);
            Check.noElement("barred by " + state + ", the row", () -> x.draftAt(1, 0));
            x.bar(state, rule, false);
            x.draft(1, rule);
            Check.is("not barred by " + state, x.hear(1), 1);
        }
    }

    private static void stays() {
        Spellreform x = new Spellreform();
        int first = drafted(x, 1, "t-d", 4);
        int second = drafted(x, 1, "t-s", 4);
        int third = drafted(x, 1, "a-e", 4);
        int fourth = drafted(x, 1, "a-o", 4);
        Check.is("two clash with what is put in force by the hearing", x.hear(1), 2);
        Check.is("one of them", x.draftAt(1, 0), second);
        Check.is("the other one", x.draftAt(1, 1), fourth);
        Check.noElement("no more", () -> x.draftAt(1, 2));
        Check.unsupported("it is in the row still", () -> x.draft(1, second));
        Check.is("they still clash", x.hear(1), 0);
        x.force(1, third, false);
        Check.is("one does not clash any more", x.hear(1), 1);
        Check.is("the row", x.draftAt(1, 0), second);
        Check.noElement("the row is shorter", () -> x.draftAt(1, 1));
        x.vote(3, second, false);
        Check.is("without the votes it does not stay", x.hear(1), 0);
        Check.noElement("it is taken out", () -> x.draftAt(1, 0));
        Check.is("what was in force stays there", x.force(1, first, true), true);
    }

    private static void others() {
        Spellreform x = new Spellreform();
        Check.addWord(x, "ta");
        int first = drafted(x, 2, "t-d", 4);
        int few = drafted(x, 2, "d-t", 3);
        int last = drafted(x, 2, "a-e", 6);
        Check.is("two of three", x.hear(2), 2);
        Check.isText("spelled by them at once", Check.spelling(x, 0, 2), "de");
        Check.isText("not elsewhere", Check.spelling(x, 0, 1), "ta");
        Check.noElement("they leave the row", () -> x.draftAt(2, 0));
        Check.unsupported("in force: not taken anew", () -> x.draft(2, first));
        Check.unsupported("in force: not taken anew, the last", () -> x.draft(2, last));
        Check.is("not in force: taken anew", x.draft(2, few), 1);
    }

    private static void inForceByThen() {
        Spellreform x = new Spellreform();
        int first = drafted(x, 0, "t-d", 4);
        int second = drafted(x, 0, "a-e", 4);
        x.force(0, first, true);
        Check.is("it counts", x.hear(0), 2);
        Check.noElement("it leaves the row", () -> x.draftAt(0, 0));
        Check.is("it stays in force", x.force(0, first, true), true);
        Check.is("the other one is", x.force(0, second, true), true);
    }

    private static void inForceButRefused() {
        Spellreform x = new Spellreform();
        int few = drafted(x, 0, "t-d", 3);
        int barred = drafted(x, 0, "a-e", 6);
        x.bar(0, barred, true);
        x.force(0, few, true);
        x.force(0, barred, true);
        Check.is("they do not count", x.hear(0), 0);
        Check.noElement("they leave the row", () -> x.draftAt(0, 0));
        Check.is("few votes: stays in force", x.force(0, few, true), true);
        Check.is("barred: stays in force", x.force(0, barred, true), true);
    }

    private static void fromAYearOn() {
        for (int year : new int[] {0, 1, 2000, 9998, 9999}) {
            Spellreform x = new Spellreform();
            Check.addWord(x, "ta");
            Check.putRule(x, "t-d", 1);
            x.setGrace(0);
            Check.is("decree of " + year, x.decree(year, 1), 0);
            if (year > 0) {
                Check.is("ahead of " + year, x.right(year - 1), 0);
            }
            Check.is("in " + year, x.right(year), 1);
            Check.is("for ever", x.right(9999), 1);
            Check.type(x, "da");
            for (int house = 0; house < 8; house++) {
                Check.is("for the house " + house, x.judge(0, year, house), 'r');
            }
        }
        Spellreform x = new Spellreform();
        Check.badArgument("the year -1", () -> x.decree(-1, 1));
        Check.badArgument("the year 10000", () -> x.decree(10000, 1));
    }

    private static void decrees() {
        Spellreform x = new Spellreform();
        for (int i = 0; i < 12; i++) {
            Check.is("decree", x.decree(100 * i, i % 4), i);
        }
        Check.badState("the 13th", () -> x.decree(1200, 1));
        Check.is("the 12th is struck", x.strike(11, true), false);
        Check.badState("one that is struck counts", () -> x.decree(1200, 1));
        Check.noIndex("there is no 13th", () -> Check.number(x.strike(12, true)));
        Check.noIndex("none ahead of the first", () -> Check.number(x.strike(-1, true)));
        Check.is("the 11th", x.right(9999), 2);
    }

    private static void strikes() {
        Spellreform x = new Spellreform();
        x.decree(2000, 1);
        Check.is("not struck at first", x.strike(0, false), false);
        Check.is("struck", x.strike(0, true), false);
        Check.is("as if it was none", x.right(2000), 0);
        Check.is("none is borne", x.borne(2000), -1);
        Check.is("struck twice", x.strike(0, true), true);
        Check.is("raised", x.strike(0, false), true);
        Check.is("in force again", x.right(2000), 1);
        Check.is("borne again", x.borne(2000), 0);
        Check.is("raised twice", x.strike(0, false), false);
    }

    private static void right() {
        Spellreform x = new Spellreform();
        Check.is("without one, the first year", x.right(0), 0);
        Check.is("without one, the last year", x.right(9999), 0);
        x.decree(2000, 1);
        x.decree(1999, 2);
        Check.is("up to it", x.right(1999), 2);
        Check.is("one ahead", x.right(1998), 0);
        Check.is("the greatest year, told first", x.right(2000), 1);
        x.decree(2000, 3);
        Check.is("of several, the last one told", x.right(2000), 3);
        x.decree(2000, 0);
        Check.is("of three", x.right(2001), 0);
        x.strike(3, true);
        Check.is("the last one is struck", x.right(2000), 3);
        x.strike(2, true);
        x.strike(0, true);
        Check.is("all of the year are struck", x.right(2000), 2);
        x.strike(1, true);
        Check.is("all are struck", x.right(9999), 0);
        x.decree(9999, 2);
        Check.is("ahead of the last year", x.right(9998), 0);
        Check.is("the last year", x.right(9999), 2);
        Check.badArgument("behind the last year", () -> x.right(10000));
        Check.badArgument("ahead of the first year", () -> x.right(-1));
    }

    private static void borne() {
        Spellreform x = new Spellreform();
        x.decree(1000, 1);
        Check.is("ahead of the decree", x.borne(999), -1);
        Check.is("its year", x.borne(1000), 0);
        Check.is("the 5th year", x.borne(1004), 0);
        Check.is("the 6th year", x.borne(1005), -1);
        Check.is("5 at first", x.setGrace(0), 5);
        Check.is("no years", x.borne(1000), -1);
        x.setGrace(1);
        Check.is("one year", x.borne(1000), 0);
        Check.is("one year, over", x.borne(1001), -1);
        x.setGrace(99);
        Check.is("99 years", x.borne(1098), 0);
        Check.is("99 years, over", x.borne(1099), -1);
        Check.badArgument("100 years", () -> x.setGrace(100));
        Check.badArgument("-1 years", () -> x.setGrace(-1));
        x.decree(1050, 1);
        Check.is("the same one is not borne", x.borne(1050), -1);
        Check.is("nor the one ahead of it", x.borne(1060), -1);
        Check.is("up to the year ahead", x.borne(1049), 0);
        x.decree(1051, 2);
        Check.is("right one year ahead", x.borne(1051), 1);
        x.decree(9999, 3);
        Check.is("the last year", x.borne(9999), 2);
        x.decree(9999, 2);
        Check.is("the last one told in the last year", x.borne(9999), -1);
    }

    private static void borneByNone() {
        Spellreform x = new Spellreform();
        Check.is("without one", x.borne(0), -1);
        Check.is("without one, later", x.borne(9999), -1);
        x.decree(0, 1);
        Check.is("of the year 0", x.borne(0), -1);
        Check.is("of the year 0, a year on", x.borne(1), -1);
        x.decree(0, 2);
        Check.is("of the year 0, two", x.borne(0), -1);
        x.decree(1, 3);
        Check.is("of the year 1", x.borne(1), 2);
        Check.is("still 0 for the year 0", x.borne(0), -1);
        x.strike(2, true);
        Check.is("of the year 0 again", x.borne(1), -1);
    }

    private static void houses() {
        Spellreform x = new Spellreform();
        for (int house = 0; house < 8; house++) {
            Check.is("none at first", x.keep(house, house % 4), -1);
        }
        for (int house = 0; house < 8; house++) {
            Check.is("its own", x.keep(house, -1), house % 4);
            Check.is("none any more", x.keep(house, -1), -1);
        }
        for (int wrong : new int[] {-1, 8}) {
            Check.badArgument("house " + wrong, () -> x.keep(wrong, 0));
        }
        for (int wrong : new int[] {-2, 4}) {
            Check.badArgument("orthography " + wrong, () -> x.keep(0, wrong));
        }
        Check.is("nothing has changed", x.keep(0, 0), -1);
    }

    /** A word and a name; in the orthographies 0 to 3 the word is ta, da, te and do. */
    private static Spellreform judging(String text) {
        Spellreform x = new Spellreform();
        Check.addWord(x, "ta", 0, 5, false);
        Check.addWord(x, "ta", 0, 5, true);
        Check.putRule(x, "t-d", 1);
        x.force(3, 0, true);
        Check.putRule(x, "a-e", 2);
        Check.putRule(x, "a-o", 3);
        x.decree(1990, 1);
        x.decree(2000, 2);
        Check.type(x, text);
        return x;
    }

    private static void judged() {
        for (String text : new String[] {"", "-", "t-a"}) {
            Spellreform x = judging(text);
            Check.unsupported("a buffer of \"" + text + "\"", () -> x.judge(0, 2000, 0));
        }
        Spellreform x = judging("q");
        Check.is("one letter", x.judge(0, 2000, 0), 'w');
        Check.isText("the buffer stays", Check.buffer(x), "q");
        Check.is("the first year, the first house", x.judge(0, 0, 0), 'w');
        Check.is("the last year, the last house", x.judge(0, 9999, 7), 'w');
    }

    private static void judgedNames() {
        for (String text : new String[] {"ta", "da", "te", "qqqqqqqqqqqqqqqqqqqqqqqq"}) {
            Spellreform x = judging(text);
            Check.is(text + " for a name", x.judge(1, 2000, 0), 'n');
            x.keep(0, 3);
            Check.is(text + " for a name, in a house of its own", x.judge(1, 2000, 0), 'n');
        }
    }

    private static void judgedRight() {
        String[] texts = {"ta", "da", "te", "do"};
        int[] years = {0, 1989, 1990, 1999, 2000, 9999};
        int[] right = {0, 0, 1, 1, 2, 2};
        for (int i = 0; i < texts.length; i++) {
            Spellreform x = judging(texts[i]);
            for (int k = 0; k < years.length; k++) {
                Check.is(texts[i] + " in " + years[k], x.judge(0, years[k], 5) == 'r', right[k] == i);
            }
            for (int own = 0; own < 4; own++) {
                x.keep(5, own);
                Check.is(texts[i] + " where they keep to " + own, x.judge(0, 2000, 5),
                        own == i ? 'r' : 'w');
            }
            x.keep(5, -1);
            Check.is(texts[i] + " where they keep to none again", x.judge(0, 2000, 5) == 'r', i == 2);
        }
    }

    private static void judgedOld() {
        Spellreform x = judging("da");
        Check.is("the last year of the right one", x.judge(0, 1999, 0), 'r');
        Check.is("the first year", x.judge(0, 2000, 0), 'o');
        Check.is("the last year", x.judge(0, 2004, 0), 'o');
        Check.is("a year on", x.judge(0, 2005, 0), 'w');
        x.keep(0, 0);
        Check.is("in a house that keeps to another one", x.judge(0, 2000, 0), 'w');
        x.keep(0, 1);
        Check.is("in a house that keeps to it", x.judge(0, 2005, 0), 'r');
        x.keep(0, -1);
        Check.except(x, 0, 2, "da");
        Check.type(x, "da");
        Check.is("right and old is right", x.judge(0, 2000, 0), 'r');
        x.strike(1, true);
        Check.is("the decree is struck", x.judge(0, 2000, 0), 'r');
        x.strike(0, true);
        Check.is("both are struck", x.judge(0, 2000, 0), 'w');
    }

    private static void judgedWrong() {
        Spellreform x = judging("do");
        for (int year : new int[] {0, 1989, 1990, 1994, 1995, 2000, 2004, 2005, 9999}) {
            Check.is("do in " + year, x.judge(0, year, 0), 'w');
        }
        Spellreform y = judging("ta");
        Check.is("what was right long ago", y.judge(0, 2000, 0), 'w');
        Check.is("what will be right no more", y.judge(0, 1995, 0), 'w');
        Check.is("it is borne", y.judge(0, 1994, 0), 'o');
    }
}
