/** Promises 30 to 36. */
public final class DecreesTest {
    public static void main(String[] args) {
        promise30();
        promise31();
        promise32();
        promise33();
        promise34();
        promise34Edges();
        promise35();
        promise36();
        promise36Exceptions();
        Check.end("DecreesTest");
    }

    private static void promise30() {
        Spellreform x = new Spellreform();
        Check.is("30 first", x.decree(0, 3), 0);
        Check.is("30 right", x.right(0), 3);
        Check.is("30 second", x.decree(9999, 0), 1);
        Check.badArgument("30 year", () -> x.decree(10000, 0));
        Check.badArgument("30 year -1", () -> x.decree(-1, 0));
        Check.badArgument("30 orthography", () -> x.decree(0, 4));
        Check.badArgument("30 orthography -1", () -> x.decree(0, -1));
        x.strike(0, true);
        for (int i = 2; i < 12; i++) {
            Check.is("30 fills", x.decree(2000, 1), i);
        }
        Check.badState("30 full", () -> x.decree(2000, 1));
        Check.badArgument("30 full, year first", () -> x.decree(-1, 1));
        Check.badArgument("30 full, orthography first", () -> x.decree(2000, 4));
        Check.noIndex("30 none added", () -> Check.number(x.strike(12, true)));
    }

    private static void promise31() {
        Spellreform x = new Spellreform();
        x.decree(1990, 1);
        x.decree(2000, 2);
        Check.is("31 strikes", x.strike(1, true), false);
        Check.is("31 the one ahead is right", x.right(2010), 1);
        Check.is("31 struck", x.strike(1, true), true);
        Check.is("31 the other one", x.strike(0, true), false);
        Check.is("31 without one", x.right(2010), 0);
        Check.is("31 raises", x.strike(1, false), true);
        Check.is("31 right again", x.right(2010), 2);
        Check.is("31 raised", x.strike(1, false), false);
        Check.noIndex("31 decree", () -> Check.number(x.strike(2, true)));
        Check.noIndex("31 decree -1", () -> Check.number(x.strike(-1, false)));
    }

    private static void promise32() {
        Spellreform x = new Spellreform();
        x.decree(2000, 1);
        Check.is("32 first", x.setGrace(0), 5);
        Check.is("32 no grace", x.borne(2000), -1);
        Check.is("32 again", x.setGrace(99), 0);
        Check.is("32 long grace", x.borne(2098), 0);
        Check.is("32 long grace is over", x.borne(2099), -1);
        Check.badArgument("32 years", () -> x.setGrace(100));
        Check.badArgument("32 years -1", () -> x.setGrace(-1));
        Check.is("32 nothing is changed", x.setGrace(1), 99);
        Check.is("32 one year", x.borne(2000), 0);
        Check.is("32 one year is over", x.borne(2001), -1);
    }

    private static void promise33() {
        Spellreform x = new Spellreform();
        x.decree(2000, 1);
        x.decree(1990, 2);
        x.decree(2000, 3);
        x.decree(1990, 1);
        Check.is("33 ahead of all", x.right(1989), 0);
        Check.is("33 from the year on, the last told", x.right(1990), 1);
        Check.is("33 up to the next", x.right(1999), 1);
        Check.is("33 the greatest year", x.right(2000), 3);
        Check.is("33 for ever", x.right(9999), 3);
        x.strike(2, true);
        Check.is("33 the one told ahead", x.right(2000), 1);
        x.strike(3, true);
        Check.is("33 the one told ahead, 1990", x.right(1995), 2);
        x.strike(2, false);
        Check.is("33 raised, still told last", x.right(2000), 3);
        Check.badArgument("33 year", () -> x.right(10000));
        Check.badArgument("33 year -1", () -> x.right(-1));
    }

    private static void promise34() {
        Spellreform x = new Spellreform();
        Check.is("34 without a decree", x.borne(2000), -1);
        x.decree(2000, 1);
        Check.is("34 ahead of it", x.borne(1999), -1);
        Check.is("34 first year", x.borne(2000), 0);
        Check.is("34 last year", x.borne(2004), 0);
        Check.is("34 over", x.borne(2005), -1);
        x.decree(2003, 2);
        Check.is("34 the next one", x.borne(2003), 1);
        Check.is("34 the next one, last year", x.borne(2007), 1);
        Check.is("34 ahead of the next one", x.borne(2002), 0);
        x.decree(2006, 2);
        Check.is("34 the same one is none", x.borne(2006), -1);
        x.decree(2006, 3);
        Check.is("34 the last told", x.borne(2006), 2);
        x.strike(3, true);
        x.strike(2, true);
        Check.is("34 struck", x.borne(2007), 1);
        x.strike(0, true);
        Check.is("34 what was right is struck", x.borne(2007), 0);
        Check.badArgument("34 year", () -> x.borne(10000));
        Check.badArgument("34 year -1", () -> x.borne(-1));
    }

    private static void promise34Edges() {
        Spellreform x = new Spellreform();
        x.decree(0, 2);
        Check.is("34 decree of the year 0", x.borne(0), -1);
        Check.is("34 decree of the year 0, later", x.borne(3), -1);
        x.decree(1, 0);
        Check.is("34 decree of the year 1", x.borne(1), 2);
        x.strike(0, true);
        Check.is("34 orthography 0, as without one", x.borne(1), -1);
        x.decree(9999, 3);
        Check.is("34 last year of all", x.borne(9999), 0);
    }

    private static void promise35() {
        Spellreform x = new Spellreform();
        Check.is("35 first", x.keep(0, 3), -1);
        Check.is("35 another house", x.keep(7, 0), -1);
        Check.is("35 again", x.keep(0, 1), 3);
        Check.is("35 none", x.keep(0, -1), 1);
        Check.is("35 from none", x.keep(0, 2), -1);
        Check.is("35 0 is one", x.keep(7, -1), 0);
        Check.badArgument("35 house", () -> x.keep(8, 0));
        Check.badArgument("35 house -1", () -> x.keep(-1, 0));
        Check.badArgument("35 orthography", () -> x.keep(0, 4));
        Check.badArgument("35 orthography -2", () -> x.keep(0, -2));
        Check.is("35 nothing is changed", x.keep(0, 0), 2);
    }

    private static void promise36() {
        Spellreform x = new Spellreform();
        int word = Check.addWord(x, "tat", 0, 5, false);
        int name = Check.addWord(x, "tat", 0, 5, true);
        Check.putRule(x, "t-d", 1);
        Check.putRule(x, "a-e", 2);
        x.decree(1990, 1);
        x.decree(2000, 2);
        Check.type(x, "tet");
        Check.is("36 right", x.judge(word, 2003, 0), 'r');
        Check.is("36 wrong then", x.judge(word, 1999, 0), 'w');
        Check.is("36 a name", x.judge(name, 1999, 0), 'n');
        Check.isText("36 buffer stays", Check.buffer(x), "tet");
        Check.type(x, "dad");
        Check.is("36 right then", x.judge(word, 1999, 0), 'r');
        Check.is("36 old", x.judge(word, 2000, 0), 'o');
        Check.is("36 old, last year", x.judge(word, 2004, 0), 'o');
        Check.is("36 old no more", x.judge(word, 2005, 0), 'w');
        Check.is("36 name, house of its own", x.judge(name, 2005, 7), 'n');
        x.keep(7, 0);
        Check.is("36 not in a house of its own", x.judge(word, 2000, 7), 'w');
        Check.type(x, "tat");
        Check.is("36 as the house keeps", x.judge(word, 2000, 7), 'r');
        Check.is("36 another house", x.judge(word, 2000, 6), 'w');
        Check.is("36 ahead of all", x.judge(word, 1989, 6), 'r');
        x.keep(7, -1);
        Check.is("36 keeps no more", x.judge(word, 2000, 7), 'w');
        Check.except(x, word, 2, "zz");
        Check.type(x, "zz");
        Check.is("36 exception", x.judge(word, 2000, 7), 'r');
        Check.type(x, "tet");
        Check.is("36 not by rules", x.judge(word, 2000, 7), 'w');
    }

    private static void promise36Exceptions() {
        Spellreform x = new Spellreform();
        int word = Check.addWord(x, "tat", 0, 5, true);
        Check.type(x, "tat");
        Check.noIndex("36 word", () -> x.judge(1, 2000, 0));
        Check.noIndex("36 word first", () -> x.judge(-1, -1, 8));
        Check.badArgument("36 year", () -> x.judge(word, 10000, 0));
        Check.badArgument("36 year -1", () -> x.judge(word, -1, 0));
        Check.badArgument("36 house", () -> x.judge(word, 2000, 8));
        Check.badArgument("36 house -1", () -> x.judge(word, 2000, -1));
        for (String text : new String[] {"", "t-at"}) {
            Check.type(x, text);
            Check.unsupported("36 buffer, for a name, too", () -> x.judge(word, 2000, 0));
            Check.badArgument("36 house ahead of the buffer", () -> x.judge(word, 2000, 8));
            Check.noIndex("36 word ahead of the buffer", () -> x.judge(1, 2000, 0));
        }
    }
}
