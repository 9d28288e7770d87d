/** Promises 46 to 49. */
public final class FiguresTest {
    public static void main(String[] args) {
        promise46();
        promise47();
        promise48();
        promise49();
        Check.end("FiguresTest");
    }

    private static void promise46() {
        Spellreform x = new Spellreform();
        Check.is("46 no words", x.checksum(0), 0L);
        Check.addWord(x, "a");
        Check.is("46 a letter", x.checksum(0), 97L);
        Check.addWord(x, "b-z", 1, 9, true);
        long due = (97L * 31 + 98) * 31 + 122;
        Check.is("46 three letters", x.checksum(0), due);
        Check.except(x, 0, 2, "c");
        Check.is("46 exception", x.checksum(2), due + 2 * 31 * 31);
        Check.is("46 elsewhere", x.checksum(1), due);
        Check.addWord(x, "zzzzzzzzzzzzzzzz");
        for (int i = 0; i < 16; i++) {
            due = due * 31 + 122;
        }
        Check.is("46 wraps around", x.checksum(0), due);
        Check.badArgument("46 orthography", () -> x.checksum(4));
        Check.badArgument("46 orthography -1", () -> x.checksum(-1));
    }

    private static void promise47() {
        Spellreform x = new Spellreform();
        Check.arithmetic("47 no words", () -> (long) x.soundShare(0));
        Check.badArgument("47 orthography first", () -> (long) x.soundShare(4));
        Check.addWord(x, "ta");
        Check.isNumber("47 all", x.soundShare(1), 1.0f);
        Check.putRule(x, "t-d", 1);
        Check.isNumber("47 none", x.soundShare(1), 0.0f);
        Check.addWord(x, "e", 2, 1, true);
        Check.addWord(x, "et");
        Check.isNumber("47 one of three", x.soundShare(1), 1.0f / 3.0f);
        Check.except(x, 2, 1, "et");
        Check.isNumber("47 two of three, exception", x.soundShare(1), 2.0f / 3.0f);
        Check.badArgument("47 orthography -1", () -> (long) x.soundShare(-1));
    }

    private static void promise48() {
        Spellreform x = new Spellreform();
        Check.arithmetic("48 no words", () -> (long) x.meanLetters(0));
        Check.badArgument("48 orthography first", () -> (long) x.meanLetters(-1));
        Check.addWord(x, "t-a");
        Check.isNumber("48 one", x.meanLetters(1), 2.0);
        Check.addWord(x, "tta", 0, 1, true);
        Check.addWord(x, "a");
        Check.isNumber("48 three", x.meanLetters(0), 2.0);
        Check.putRule(x, "t-th", 1);
        Check.isNumber("48 by rules", x.meanLetters(1), 9.0 / 3.0);
        Check.except(x, 2, 1, "ah");
        Check.isNumber("48 exception", x.meanLetters(1), 10.0 / 3.0);
        Check.badArgument("48 orthography", () -> (long) x.meanLetters(4));
    }

    private static void promise49() {
        Spellreform x = new Spellreform();
        Check.is("49 new", x.isSound(), true);
        int first = Check.putRule(x, "t-d", 1);
        int second = Check.addRule(x, "t-s", 'e', 2);
        for (int state = 0; state < 6; state++) {
            x.vote(state, second, true);
        }
        x.draft(1, second);
        x.hear(1);
        Check.unsupported("49 none is forced", () -> Check.number(x.force(1, second, true)));
        Check.is("49 holds", x.isSound(), true);
        x.force(2, second, true);
        Check.is("49 holds, in unlike orthographies", x.isSound(), true);
        x.force(1, first, false);
        x.hear(1);
        Check.unsupported("49 none is put back", () -> Check.number(x.force(1, first, true)));
        Check.is("49 still holds", x.isSound(), true);
    }
}
