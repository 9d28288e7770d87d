/** Promises 37 to 45. */
public final class PeopleTest {
    public static void main(String[] args) {
        promise37();
        promise38();
        promise39();
        promise39Exceptions();
        promise40();
        promise40Exceptions();
        promise41();
        promise42();
        promise43();
        promise44();
        promise45();
        Check.end("PeopleTest");
    }

    private static void promise37() {
        Spellreform x = new Spellreform();
        for (int i = 0; i < 10; i++) {
            Check.is("37 reader", x.reader(), i);
        }
        Check.badState("37 full", () -> x.reader());
        Check.noIndex("37 none added", () -> x.learn(10, 0));
    }

    private static void promise38() {
        Spellreform x = new Spellreform();
        x.reader();
        x.reader();
        int[] learned = {1, 1, 0, 3, 2, 0, 1, 3};
        for (int i = 0; i < learned.length; i++) {
            Check.is("38 learns", x.learn(0, learned[i]), i + 1);
        }
        Check.badState("38 full", () -> x.learn(0, 1));
        Check.badArgument("38 full, orthography first", () -> x.learn(0, 4));
        Check.is("38 another reader", x.learn(1, 3), 1);
        Check.badArgument("38 orthography", () -> x.learn(1, 4));
        Check.badArgument("38 orthography -1", () -> x.learn(1, -1));
        Check.noIndex("38 reader first", () -> x.learn(2, 4));
        Check.noIndex("38 reader -1", () -> x.learn(-1, 0));
        Check.is("38 nothing is changed", x.learn(1, 3), 2);
    }

    private static void promise39() {
        Spellreform x = new Spellreform();
        int rare = Check.addWord(x, "ta-t", 0, 99, false);
        int often = Check.addWord(x, "ta-t", 0, 100, false);
        int name = Check.addWord(x, "ta-t", 0, 5, true);
        int known = Check.addWord(x, "ta-t", 0, 999, false);
        Check.putRule(x, "t-th", 1);
        for (int word = 0; word < 4; word++) {
            Check.except(x, word, 1, "exc");
        }
        Check.except(x, often, 0, "nought");
        x.reader();
        writes(x, "39 orthography 0 at first", rare, "tat");
        writes(x, "39 orthography 0 at first, exception", often, "nought");
        x.learn(0, 1);
        writes(x, "39 first one, rare exception", rare, "exc");
        writes(x, "39 first one, exception", often, "exc");
        writes(x, "39 name", name, "tat");
        x.learn(0, 0);
        writes(x, "39 the last one", rare, "tat");
        x.learn(0, 1);
        writes(x, "39 rare exception by rules", rare, "thath");
        writes(x, "39 frequent exception", often, "exc");
        writes(x, "39 most frequent exception", known, "exc");
        writes(x, "39 name, still", name, "tat");
        Check.type(x, "");
        x.except(rare, 1);
        writes(x, "39 no exception", rare, "thath");
        Check.noIndex("39 reader", () -> x.write(1, 0));
        Check.noIndex("39 reader -1", () -> x.write(-1, 0));
        Check.noIndex("39 word", () -> x.write(0, 4));
        Check.noIndex("39 word -1", () -> x.write(0, -1));
        Check.isText("39 nothing is changed", Check.buffer(x), "thath");
    }

    private static void writes(Spellreform x, String what, int word, String due) {
        Check.type(x, "q-q-q-q-q-q-q-q-q-q-q-q");
        Check.is(what, x.write(0, word), due.length());
        Check.isText(what, Check.buffer(x), due);
    }

    private static void promise39Exceptions() {
        Spellreform x = new Spellreform();
        int word = Check.addWord(x, "eeeeeeeeeeeeeeee", 0, 50, false);
        Check.putRule(x, "e-eau", 2);
        Check.except(x, word, 2, "e");
        x.reader();
        x.learn(0, 2);
        writes(x, "39 learned once", word, "e");
        x.learn(0, 2);
        writes(x, "39 learned twice, ahead of itself", word, "eau".repeat(16));
        Check.badState("39 more than 24 are there", () -> x.type('a'));
        Check.is("39 collected at length", x.collect(word, 1), 1);
    }

    private static void promise40() {
        Spellreform x = new Spellreform();
        Check.addWord(x, "ta", 0, 1, false);
        Check.addWord(x, "ta", 1, 20, true);
        Check.addWord(x, "da", 0, 300, false);
        Check.addWord(x, "te", 0, 50, false);
        Check.putRule(x, "t-th", 1);
        Check.putRule(x, "d-dh", 2);
        x.decree(1990, 1);
        x.decree(2000, 2);
        x.reader();
        Check.is("40 at first, all right", x.mistakes(0, 1980), 0);
        Check.is("40 orthography 0 is borne", x.mistakes(0, 1994), 0);
        Check.is("40 no more", x.mistakes(0, 1995), 51);
        Check.is("40 right or borne", x.mistakes(0, 2000), 0);
        Check.is("40 wrong in 2", x.mistakes(0, 2005), 300);
        x.learn(0, 1);
        Check.is("40 learned 1", x.mistakes(0, 1999), 0);
        Check.is("40 learned 1, borne", x.mistakes(0, 2004), 0);
        Check.is("40 learned 1, then wrong", x.mistakes(0, 2005), 351);
        Check.is("40 learned 1, ahead of it", x.mistakes(0, 1989), 51);
        x.learn(0, 2);
        Check.is("40 learned 2", x.mistakes(0, 2005), 0);
        x.reader();
        x.learn(1, 2);
        Check.is("40 another reader", x.mistakes(1, 2003), 0);
        Check.badArgument("40 year", () -> x.mistakes(0, 10000));
        Check.badArgument("40 year -1", () -> x.mistakes(0, -1));
        Check.noIndex("40 reader first", () -> x.mistakes(2, -1));
        Check.noIndex("40 reader -1", () -> x.mistakes(-1, 0));
    }

    private static void promise40Exceptions() {
        Spellreform x = new Spellreform();
        Check.addWord(x, "ta", 0, 99, false);
        Check.addWord(x, "ta", 0, 100, false);
        Check.except(x, 0, 1, "zz");
        Check.except(x, 1, 1, "zz");
        x.decree(2000, 1);
        x.setGrace(1);
        x.reader();
        x.learn(0, 1);
        Check.is("40 exceptions are known", x.mistakes(0, 2001), 0);
        x.learn(0, 1);
        Check.is("40 a rare exception is not", x.mistakes(0, 2001), 99);
        Check.is("40 but borne", x.mistakes(0, 2000), 0);
        Check.is("40 the frequent one is no right one ahead", x.mistakes(0, 1999), 100);
        Check.type(x, "qq");
        x.mistakes(0, 2000);
        Check.isText("40 buffer stays", Check.buffer(x), "qq");
    }

    private static void promise41() {
        Spellreform x = new Spellreform();
        Check.is("41 first", x.print(0, 3, 9999), 9999);
        Check.is("41 second", x.print(0, 3, 1), 10000);
        Check.is("41 another house", x.print(7, 0, 5), 5);
        Check.badArgument("41 house", () -> x.print(8, 0, 1));
        Check.badArgument("41 house -1", () -> x.print(-1, 0, 1));
        Check.badArgument("41 orthography", () -> x.print(0, 4, 1));
        Check.badArgument("41 orthography -1", () -> x.print(0, -1, 1));
        Check.badArgument("41 copies 0", () -> x.print(0, 0, 0));
        Check.badArgument("41 copies 10000", () -> x.print(0, 0, 10000));
        Check.badArgument("41 copies -1", () -> x.print(0, 0, -1));
        for (int i = 2; i < 20; i++) {
            Check.is("41 fills", x.print(0, i % 4, 1), 9999 + i);
        }
        Check.badState("41 full", () -> x.print(0, 0, 1));
        Check.badArgument("41 full, copies first", () -> x.print(0, 0, 0));
        Check.is("41 another house is not", x.print(7, 0, 5), 10);
        Check.is("41 sold out", x.sell(0, 9999), 19);
        Check.is("41 room again", x.print(0, 1, 3), 22);
        Check.badState("41 full again", () -> x.print(0, 0, 1));
        refusedEditionLeavesNothing();
    }

    /** The orthography of an edition that was refused must not come to the next one. */
    private static void refusedEditionLeavesNothing() {
        Spellreform x = new Spellreform();
        for (int i = 0; i < 20; i++) {
            x.print(0, 0, 1);
        }
        Check.badState("41 refused", () -> x.print(0, 3, 1));
        Check.is("41 one is sold", x.sell(0, 1), 19);
        Check.is("41 the next one", x.print(0, 0, 1), 20);
        Check.is("41 all are in the right orthography", x.pulp(0, 0), 0);
    }

    private static void promise42() {
        Spellreform x = new Spellreform();
        Check.unsupported("42 none", () -> x.sell(3, 1));
        x.print(3, 0, 50);
        x.print(3, 1, 30);
        x.print(3, 2, 20);
        Check.is("42 a part", x.sell(3, 49), 3);
        Check.is("42 the last copy", x.sell(3, 1), 2);
        Check.is("42 over two", x.sell(3, 31), 1);
        Check.unsupported("42 too many", () -> x.sell(3, 20));
        Check.unsupported("42 another house", () -> x.sell(4, 1));
        Check.badArgument("42 house", () -> x.sell(8, 1));
        Check.badArgument("42 house -1", () -> x.sell(-1, 1));
        Check.badArgument("42 copies 0", () -> x.sell(3, 0));
        Check.badArgument("42 copies 10000", () -> x.sell(3, 10000));
        Check.is("42 all", x.sell(3, 19), 0);
        Check.unsupported("42 sold out", () -> x.sell(3, 1));
        x.print(3, 0, 5);
        x.print(3, 1, 7);
        x.sell(3, 5);
        Check.is("42 the oldest was sold", x.pulp(3, 0), 7);
    }

    private static void promise43() {
        Spellreform x = new Spellreform();
        x.decree(1990, 1);
        x.decree(2000, 2);
        int[] orthographies = {0, 1, 2, 3, 1, 0};
        int[] copies = {1, 10, 100, 1000, 5, 50};
        for (int i = 0; i < copies.length; i++) {
            x.print(5, orthographies[i], copies[i]);
        }
        Check.is("43 neither right nor borne", x.pulp(5, 2004), 1 + 1000 + 50);
        Check.is("43 none is left of these", x.pulp(5, 2004), 0);
        Check.is("43 three are left", x.sell(5, 9), 3);
        Check.is("43 borne no more", x.pulp(5, 2005), 1 + 5);
        Check.is("43 another year", x.pulp(5, 1999), 100);
        Check.unsupported("43 all are pulped", () -> x.sell(5, 1));
        Check.is("43 another house", x.pulp(0, 1999), 0);
        x.keep(0, 3);
        x.print(0, 3, 12);
        Check.is("43 what the house keeps to is nothing", x.pulp(0, 1999), 12);
        x.print(0, 0, 3);
        x.print(0, 1, 4);
        Check.is("43 both are spared", x.pulp(0, 1990), 0);
        Check.is("43 in the order of age", x.sell(0, 3), 1);
        Check.is("43 the newer one is left", x.pulp(0, 1990), 0);
        Check.badArgument("43 house", () -> x.pulp(8, 0));
        Check.badArgument("43 house -1", () -> x.pulp(-1, 0));
        Check.badArgument("43 year", () -> x.pulp(0, 10000));
        Check.badArgument("43 year -1", () -> x.pulp(0, -1));
    }

    private static void promise44() {
        Spellreform x = new Spellreform();
        int word = Check.addWord(x, "ta");
        Check.type(x, "ta");
        Check.noIndex("44 word", () -> x.collect(1, 2000));
        Check.noIndex("44 word first", () -> x.collect(-1, -1));
        Check.badArgument("44 year", () -> x.collect(word, 10000));
        Check.badArgument("44 year -1", () -> x.collect(word, -1));
        Check.isText("44 nothing is changed", Check.buffer(x), "ta");
        Check.is("44 first", x.collect(word, 0), 1);
        Check.is("44 buffer is empty", x.clear(), 0);
        Check.unsupported("44 empty", () -> x.collect(word, 0));
        Check.type(x, "t-a");
        Check.unsupported("44 a -", () -> x.collect(word, 0));
        Check.badArgument("44 year ahead of the buffer", () -> x.collect(word, -1));
        for (int i = 2; i <= 60; i++) {
            Check.type(x, "da");
            Check.is("44 fills", x.collect(word, 9999), i);
        }
        Check.unsupported("44 full, buffer first", () -> x.collect(word, 0));
        Check.type(x, "ta");
        Check.badState("44 full", () -> x.collect(word, 0));
        Check.badArgument("44 full, year first", () -> x.collect(word, -1));
        Check.is("44 full, stays", x.clear(), 2);
    }

    private static void promise45() {
        Spellreform x = new Spellreform();
        int word = Check.addWord(x, "ta");
        int name = Check.addWord(x, "tat", 1, 5, true);
        Check.putRule(x, "t-d", 1);
        collects(x, word, 2000, "ta");
        collects(x, word, 2000, "da");
        collects(x, name, 2000, "dad");
        collects(x, word, 2001, "qq");
        collects(x, name, 2001, "ta");
        Check.is("45 one of three", x.adoption(0, 2000), 333);
        Check.is("45 two of three, rounded down", x.adoption(1, 2000), 666);
        Check.is("45 none of two, for its own word", x.adoption(0, 2001), 0);
        Check.except(x, word, 1, "qq");
        Check.is("45 spelled otherwise since", x.adoption(1, 2001), 500);
        Check.is("45 spelled otherwise, other year", x.adoption(1, 2000), 333);
        collects(x, word, 2002, "qq");
        Check.is("45 all", x.adoption(1, 2002), 1000);
        Check.noElement("45 no texts", () -> x.adoption(0, 1999));
        Check.badArgument("45 orthography", () -> x.adoption(4, 1999));
        Check.badArgument("45 orthography -1", () -> x.adoption(-1, 2000));
        Check.badArgument("45 year", () -> x.adoption(0, 10000));
        Check.badArgument("45 year -1", () -> x.adoption(0, -1));
    }

    private static void collects(Spellreform x, int word, int year, String text) {
        Check.type(x, text);
        x.collect(word, year);
    }
}
