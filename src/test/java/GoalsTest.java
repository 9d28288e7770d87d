/** Promises 23 to 29. */
public final class GoalsTest {
    public static void main(String[] args) {
        promise23();
        promise23Stems();
        promise24();
        promise25();
        promise26();
        promise27();
        promise28();
        promise28Force();
        promise28Clashes();
        promise29();
        Check.end("GoalsTest");
    }

    private static void promise23() {
        Spellreform x = new Spellreform();
        Check.addWord(x, "ta-t", 0, 1, false);
        Check.addWord(x, "da", 1, 10, false);
        Check.addWord(x, "te", 4, 100, true);
        Check.is("23 s, all", x.score('s', 1), 111);
        Check.is("23 h, all loans", x.score('h', 1), 110);
        Check.putRule(x, "t-d", 1);
        Check.is("23 s", x.score('s', 1), 10);
        Check.is("23 h", x.score('h', 1), 10);
        Check.is("23 h in 0", x.score('h', 0), 110);
        Check.except(x, 0, 1, "tat");
        Check.is("23 s, exception as it sounds", x.score('s', 1), 11);
        Check.is("23 h, not for the own", x.score('h', 1), 10);
        Check.except(x, 2, 0, "de");
        Check.is("23 h, exception in 0", x.score('h', 1), 110);
        Check.is("23 s, not in 0", x.score('s', 0), 11);
        Check.is("23 h, elsewhere", x.score('h', 2), 10);
        for (char school : new char[] {'a', 'S', 'T', 'H', (char) 0, 'r', 'u'}) {
            Check.badArgument("23 school " + school, () -> x.score(school, 0));
        }
        Check.badArgument("23 orthography", () -> x.score('s', 4));
        Check.badArgument("23 orthography -1", () -> x.score('t', -1));
        Check.badArgument("23 orthography h", () -> x.score('h', 5));
    }

    private static void promise23Stems() {
        Spellreform x = new Spellreform();
        Check.addWord(x, "tat-a", 0, 5, false);
        Check.addWord(x, "tat", 0, 5, false);
        Check.addWord(x, "tat-e", 2, 5, true);
        Check.addWord(x, "tata", 0, 5, false);
        Check.addWord(x, "ta-t", 0, 5, false);
        Check.is("23 t, three alike", x.score('t', 1), 3);
        int loans = Check.addRule(x, "t-d", 'a', 2);
        x.force(1, loans, true);
        Check.is("23 t, by origin", x.score('t', 1), 1);
        int between = Check.addRule(x, "t-r", 'v', 0);
        x.force(1, between, true);
        Check.isText("23 t, rule in the word", Check.spelling(x, 0, 1), "tara");
        Check.is("23 t, spelled by itself", x.score('t', 1), 1);
        Check.except(x, 0, 1, "zzz");
        Check.except(x, 1, 1, "yyy");
        Check.is("23 t, exceptions aside", x.score('t', 1), 1);
        Check.is("23 t, elsewhere", x.score('t', 0), 3);
        int end = Check.addRule(x, "t-s", 'e', 0);
        int endOfLoans = Check.addRule(x, "t-s", 'e', 2);
        x.force(2, end, true);
        Check.is("23 t, end of the stem", x.score('t', 2), 1);
        x.force(2, endOfLoans, true);
        Check.is("23 t, alike by two rules", x.score('t', 2), 3);
    }

    private static void promise24() {
        Spellreform x = new Spellreform();
        Check.is("24 no words", x.cost(0, 1), 0);
        Check.addWord(x, "ta", 0, 1, false);
        Check.addWord(x, "da", 1, 20, false);
        Check.addWord(x, "te", 0, 300, true);
        Check.addWord(x, "te", 0, 400, false);
        Check.putRule(x, "t-d", 1);
        Check.is("24 cost", x.cost(0, 1), 401);
        Check.is("24 the other way", x.cost(1, 0), 401);
        Check.is("24 the same", x.cost(1, 1), 0);
        Check.except(x, 3, 1, "te");
        Check.is("24 exception", x.cost(0, 1), 1);
        Check.badArgument("24 first", () -> x.cost(4, 0));
        Check.badArgument("24 second", () -> x.cost(0, 4));
        Check.badArgument("24 second -1", () -> x.cost(0, -1));
    }

    private static void promise25() {
        Spellreform x = new Spellreform();
        int first = Check.addRule(x, "t-d", 'a', -1);
        int second = Check.addRule(x, "d-t", 'a', -1);
        for (int state = 0; state < 6; state++) {
            Check.is("25 votes", x.vote(state, first, true), state + 1);
        }
        Check.is("25 twice", x.vote(5, first, true), 6);
        Check.is("25 the other rule", x.vote(3, second, false), 0);
        Check.is("25 not any more", x.vote(0, first, false), 5);
        Check.is("25 twice not", x.vote(0, first, false), 5);
        Check.is("25 another one", x.vote(2, first, false), 4);
        Check.badArgument("25 state", () -> x.vote(6, first, true));
        Check.badArgument("25 state -1", () -> x.vote(-1, first, true));
        Check.badArgument("25 state first", () -> x.vote(6, 9, true));
        Check.noIndex("25 rule", () -> x.vote(0, 2, true));
        Check.noIndex("25 rule -1", () -> x.vote(5, -1, true));
    }

    private static void promise26() {
        Spellreform x = new Spellreform();
        int first = Check.addRule(x, "t-d", 'a', -1);
        int second = Check.addRule(x, "d-t", 'a', -1);
        Check.is("26 bars", x.bar(0, first, true), false);
        Check.is("26 barred", x.bar(0, first, true), true);
        Check.is("26 another state", x.bar(5, first, false), false);
        Check.is("26 another rule", x.bar(0, second, true), false);
        Check.is("26 no more", x.bar(0, first, false), true);
        Check.is("26 none", x.bar(0, first, false), false);
        Check.is("26 still the other rule", x.bar(0, second, true), true);
        Check.badArgument("26 state", () -> Check.number(x.bar(6, first, true)));
        Check.badArgument("26 state -1, first", () -> Check.number(x.bar(-1, 9, true)));
        Check.noIndex("26 rule", () -> Check.number(x.bar(0, 2, true)));
        Check.noIndex("26 rule -1", () -> Check.number(x.bar(0, -1, true)));
    }

    private static void promise27() {
        Spellreform x = new Spellreform();
        int first = Check.addRule(x, "t-d", 'a', -1);
        int second = Check.addRule(x, "t-s", 'a', -1);
        Check.is("27 first", x.draft(1, second), 1);
        Check.is("27 second", x.draft(1, first), 2);
        Check.is("27 another orthography", x.draft(3, first), 1);
        Check.unsupported("27 in the row", () -> x.draft(1, second));
        x.force(2, first, true);
        Check.unsupported("27 in force", () -> x.draft(2, first));
        Check.is("27 clashes with what is in force", x.draft(2, second), 1);
        x.force(2, first, false);
        Check.is("27 out of force", x.draft(2, first), 2);
        Check.badArgument("27 orthography", () -> x.draft(4, first));
        Check.badArgument("27 orthography first", () -> x.draft(-1, 9));
        Check.noIndex("27 rule", () -> x.draft(1, 2));
        Check.noIndex("27 rule -1", () -> x.draft(1, -1));
        for (int i = 2; i < 40; i++) {
            Check.addRule(x, "t-d", 'a', -1);
            Check.is("27 all rules", x.draft(1, i), i + 1);
        }
        Check.is("27 last", x.draftAt(1, 39), 39);
    }

    private static void promise28() {
        Spellreform x = new Spellreform();
        Check.addWord(x, "tad");
        Check.is("28 none", x.hear(0), 0);
        int three = voted(x, "t-x", 3);
        int four = voted(x, "d-y", 4);
        int six = voted(x, "a-e", 6);
        int barred = voted(x, "ta-z", 6);
        x.bar(5, barred, true);
        x.draft(1, three);
        x.draft(1, four);
        x.draft(1, barred);
        x.draft(1, six);
        Check.is("28 heard", x.hear(1), 2);
        Check.isText("28 in force", Check.spelling(x, 0, 1), "tey");
        Check.isText("28 not elsewhere", Check.spelling(x, 0, 0), "tad");
        Check.noElement("28 all have left", () -> x.draftAt(1, 0));
        Check.is("28 left out, taken anew", x.draft(1, three), 1);
        Check.is("28 barred, taken anew", x.draft(1, barred), 2);
        x.vote(1, three, true);
        x.bar(5, barred, false);
        x.bar(0, barred, true);
        Check.is("28 four votes now", x.hear(1), 1);
        Check.isText("28 in force now", Check.spelling(x, 0, 1), "xey");
        Check.is("28 of another state", x.draft(1, barred), 1);
        x.bar(0, barred, false);
        Check.is("28 not barred", x.hear(1), 1);
        Check.badArgument("28 orthography", () -> x.hear(4));
        Check.badArgument("28 orthography -1", () -> x.hear(-1));
    }

    /** Adds a rule for anywhere and for all, with votes of the last states. */
    private static int voted(Spellreform x, String text, int votes) {
        int rule = Check.addRule(x, text, 'a', -1);
        for (int state = 6 - votes; state < 6; state++) {
            x.vote(state, rule, true);
        }
        x.vote(0, rule, votes == 6);
        return rule;
    }

    private static void promise28Force() {
        Spellreform x = new Spellreform();
        int agreed = voted(x, "t-d", 5);
        int few = voted(x, "d-s", 2);
        int barred = voted(x, "s-z", 6);
        x.bar(2, barred, true);
        for (int rule = 0; rule < 3; rule++) {
            x.draft(0, rule);
            x.force(0, rule, true);
        }
        Check.is("28 in force by then", x.hear(0), 1);
        Check.noElement("28 in force, all have left", () -> x.draftAt(0, 0));
        Check.is("28 stays in force", x.force(0, agreed, true), true);
        Check.is("28 few votes, stays in force", x.force(0, few, true), true);
        Check.is("28 barred, stays in force", x.force(0, barred, true), true);
    }

    private static void promise28Clashes() {
        Spellreform x = new Spellreform();
        int first = voted(x, "t-d", 4);
        int second = voted(x, "t-s", 4);
        int third = voted(x, "t-r", 4);
        int other = voted(x, "a-e", 4);
        x.draft(2, second);
        x.draft(2, first);
        x.draft(2, other);
        x.draft(2, third);
        Check.is("28 the first of the row", x.hear(2), 2);
        Check.is("28 one is in force", x.force(2, second, true), true);
        Check.is("28 the clashing one stays", x.draftAt(2, 0), first);
        Check.is("28 in its order", x.draftAt(2, 1), third);
        Check.noElement("28 the others left", () -> x.draftAt(2, 2));
        Check.is("28 still clashes", x.hear(2), 0);
        x.force(2, second, false);
        x.bar(0, first, true);
        Check.is("28 the next one", x.hear(2), 1);
        Check.is("28 the next one is in force", x.force(2, third, true), true);
        Check.noElement("28 the barred one left", () -> x.draftAt(2, 0));
        Check.is("28 sound", x.isSound(), true);
    }

    private static void promise29() {
        Spellreform x = new Spellreform();
        Check.noElement("29 empty", () -> x.draftAt(0, 0));
        int first = Check.addRule(x, "t-d", 'a', -1);
        int second = Check.addRule(x, "t-s", 'a', -1);
        x.draft(1, second);
        x.draft(1, first);
        Check.is("29 first", x.draftAt(1, 0), second);
        Check.is("29 second", x.draftAt(1, 1), first);
        Check.noElement("29 index", () -> x.draftAt(1, 2));
        Check.noElement("29 index -1", () -> x.draftAt(1, -1));
        Check.noElement("29 another orthography", () -> x.draftAt(2, 0));
        Check.badArgument("29 orthography", () -> x.draftAt(4, 0));
        Check.badArgument("29 orthography first", () -> x.draftAt(-1, 5));
    }
}
