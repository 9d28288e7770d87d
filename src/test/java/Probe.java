/**
 * Tells all that the calls answer of an object, the asking ones first and then the changing ones;
 * the object is used up by then. Two objects that tell the same are in the same state, as far as
 * a caller can see. It needs some 270 of the 512 calls.
 */
final class Probe {
    private static final int[] YEARS = {0, 1, 1989, 1990, 2000, 2006, 2007, 9999};

    private final Spellreform x;
    private final StringBuilder story = new StringBuilder();

    private Probe(Spellreform x) {
        this.x = x;
    }

    static String story(Spellreform x) {
        Probe probe = new Probe(x);
        probe.buffer();
        probe.spellings();
        probe.yearsAndTexts();
        probe.decreesAndHouses();
        probe.rules();
        probe.exceptions();
        probe.people();
        probe.books();
        probe.numbersOfNext();
        return probe.story.toString();
    }

    private boolean tell(String what, Check.Call call) {
        story.append(what).append(' ');
        try {
            story.append(call.answer()).append('\n');
            return true;
        } catch (RuntimeException e) {
            story.append(e.getClass().getSimpleName()).append('\n');
            return false;
        }
    }

    private void buffer() {
        for (int i = 0; i <= 48; i++) {
            int index = i;
            if (!tell("signAt", () -> x.signAt(index))) {
                return;
            }
        }
    }

    private void spellings() {
        for (int i = 0; i < 4; i++) {
            int o = i;
            tell("checksum", () -> x.checksum(o));
            tell("meanLetters", () -> Double.doubleToLongBits(x.meanLetters(o)));
            tell("homographs", () -> x.homographs(o));
            for (int k = 0; k < 3; k++) {
                int number = k;
                tell("letters", () -> x.letters(number, o));
                tell("ruleOf", () -> x.ruleOf(0, o, number));
                tell("used", () -> x.used(number, o));
                tell("draftAt", () -> x.draftAt(o, number));
            }
        }
        tell("isSound", () -> Check.number(x.isSound()));
    }

    private void yearsAndTexts() {
        for (int year : YEARS) {
            tell("right", () -> x.right(year));
            tell("borne", () -> x.borne(year));
        }
        for (int i = 0; i < 4; i++) {
            int o = i;
            tell("adoption", () -> x.adoption(o, 0));
            tell("adoption", () -> x.adoption(o, 2000));
            tell("mistakes", () -> x.mistakes(o, 2000));
        }
    }

    private void decreesAndHouses() {
        for (int i = 0; i < 13; i++) {
            int decree = i;
            tell("strike", () -> Check.number(x.strike(decree, false)));
        }
        for (int i = 0; i < 8; i++) {
            int house = i;
            tell("keep", () -> x.keep(house, -1));
        }
        tell("setGrace", () -> x.setGrace(5));
    }

    private void rules() {
        for (int i = 0; i < 4; i++) {
            int rule = i;
            for (int k = 0; k < 4; k++) {
                int o = k;
                tell("force", () -> Check.number(x.force(o, rule, false)));
            }
        }
        for (int i = 0; i < 6; i++) {
            int state = i;
            for (int k = 0; k < 2; k++) {
                int rule = k;
                tell("vote", () -> x.vote(state, rule, true));
                tell("bar", () -> Check.number(x.bar(state, rule, true)));
            }
        }
    }

    private void exceptions() {
        tell("clear", () -> x.clear());
        for (int i = 0; i < 4; i++) {
            int o = i;
            tell("except", () -> Check.number(x.except(0, o)));
            tell("except", () -> Check.number(x.except(1, o)));
        }
    }

    private void people() {
        for (int i = 0; i < 3; i++) {
            int reader = i;
            tell("write", () -> x.write(reader, 1));
            tell("learn", () -> x.learn(reader, 3));
        }
        tell("learn", () -> x.learn(9, 3));
        tell("learn", () -> x.learn(10, 3));
    }

    private void books() {
        for (int i = 0; i < 8; i++) {
            int house = i;
            tell("print", () -> x.print(house, 0, 1));
            tell("sell", () -> x.sell(house, 2));
            tell("print", () -> x.print(house, 3, 1));
            tell("pulp", () -> x.pulp(house, 2006));
            tell("sell", () -> x.sell(house, 1));
        }
    }

    private void numbersOfNext() {
        tell("decree", () -> x.decree(5, 1));
        tell("reader", () -> x.reader());
        typed("q");
        tell("collect", () -> x.collect(0, 77));
        typed("q");
        tell("word", () -> x.word(0, 1, false));
        typed("q-q");
        tell("rule", () -> x.rule('a', -1));
    }

    private void typed(String text) {
        tell("clear", () -> x.clear());
        for (char sign : text.toCharArray()) {
            tell("type", () -> x.type(sign));
        }
    }
}
