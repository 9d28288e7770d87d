import java.util.ArrayList;
import java.util.NoSuchElementException;

/** A language that changes how it is written; the README tells how to use it. */
public final class Spellreform {
    private static final char NO_SIGN = (char) 0;
    private static final int NONE = -1;
    private static final int FOR_ALL = -1;
    private static final int ORTHOGRAPHIES = 4;
    private static final int HOUSES = 8;
    private static final int STATES = 6;
    private static final int HALF_OF_VOTES = 3;
    private static final int ORIGINS = 5;
    private static final int LAST_YEAR = 9999;
    private static final int RARE_BELOW = 100;
    private static final int FIRST_GRACE = 5;

    private static final int MOST_TYPED = 24;
    private static final int MOST_SIGNS_OF_WORD = 16;
    private static final int MOST_SIGNS_OF_PART = 3;
    private static final int MOST_USE = 999;
    private static final int MOST_WORDS = 40;
    private static final int MOST_RULES = 40;
    private static final int MOST_DECREES = 12;
    private static final int MOST_GRACE = 99;
    private static final int MOST_READERS = 10;
    private static final int MOST_LEARNED = 8;
    private static final int MOST_EDITIONS = 20;
    private static final int MOST_COPIES = 9999;
    private static final int MOST_TEXTS = 60;
    /** The longest spelling: 16 sounds, each of them spelled as 3 letters. */
    private static final int ROOM_OF_TEXT = 48;
    /** The longest row: a draft with each of the 40 rules. */
    private static final int ROOM_OF_ROW = 40;

    private final Text buffer = new Text();
    private final ArrayList<Word> words = new ArrayList<Word>();
    private final ArrayList<Rule> rules = new ArrayList<Rule>();
    /** The orthography 0. */
    private final Orthography firstOne = new Orthography();
    private final ArrayList<Orthography> orthographies = new ArrayList<Orthography>();
    private final ArrayList<Decree> decrees = new ArrayList<Decree>();
    private final ArrayList<House> houses = new ArrayList<House>();
    private final ArrayList<Reader> readers = new ArrayList<Reader>();
    private final ArrayList<Collected> corpus = new ArrayList<Collected>();
    private int grace = FIRST_GRACE;

    public Spellreform() {
        orthographies.add(firstOne);
        for (int i = 1; i < ORTHOGRAPHIES; i++) {
            orthographies.add(new Orthography());
        }
        for (int i = 0; i < HOUSES; i++) {
            houses.add(new House());
        }
    }

    // Words and rules

    public int type(char sign) throws IllegalArgumentException, IllegalStateException {
        if (!isLetter(sign) && sign != '-') {
            throw new IllegalArgumentException("neither a letter nor -");
        }
        if (buffer.length() >= MOST_TYPED) {
            throw new IllegalStateException("the buffer is full");
        }
        buffer.add(sign);
        return buffer.length();
    }

    public int clear() {
        int before = buffer.length();
        buffer.empty();
        return before;
    }

    public int word(int origin, int use, boolean isName)
            throws IllegalArgumentException, UnsupportedOperationException, IllegalStateException {
        if (origin < 0 || origin >= ORIGINS || use < 1 || use > MOST_USE) {
            throw new IllegalArgumentException("a number is out of range");
        }
        if (!isWord(buffer)) {
            throw new UnsupportedOperationException("the buffer is no word");
        }
        if (words.size() >= MOST_WORDS) {
            throw new IllegalStateException("there are 40 words");
        }
        Word added = new Word(buffer, origin, use, isName);
        words.add(added);
        for (int i = 0; i < orthographies.size(); i++) {
            orthographies.get(i).entries.add(new Entry(added));
            spellAll(orthographies.get(i));
        }
        buffer.empty();
        return words.size() - 1;
    }

    public int rule(char place, int origin)
            throws IllegalArgumentException, UnsupportedOperationException, IllegalStateException {
        if (!isPlace(place) || origin < FOR_ALL || origin >= ORIGINS) {
            throw new IllegalArgumentException("no such place or origin");
        }
        if (!isRule(buffer)) {
            throw new UnsupportedOperationException("the buffer is no rule");
        }
        if (rules.size() >= MOST_RULES) {
            throw new IllegalStateException("there are 40 rules");
        }
        rules.add(new Rule(buffer, place, origin));
        buffer.empty();
        return rules.size() - 1;
    }

    public boolean force(int orthography, int rule, boolean isIn)
            throws IllegalArgumentException, IndexOutOfBoundsException, UnsupportedOperationException {
        Orthography there = orthographyOf(orthography);
        Rule told = ruleNumbered(rule);
        if (isIn && clashesThere(told, there)) {
            throw new UnsupportedOperationException("it clashes with a rule in force");
        }
        boolean was = there.isInForce(rule);
        there.putInForce(rule, isIn);
        spellAll(there);
        return was;
    }

    public boolean clash(int first, int second) throws IndexOutOfBoundsException {
        return ruleNumbered(first).clashesWith(ruleNumbered(second));
    }

    public boolean except(int word, int orthography)
            throws IndexOutOfBoundsException, IllegalArgumentException, UnsupportedOperationException {
        Entry entry = entryOf(word, orthography);
        if (buffer.has('-') || buffer.length() > MOST_SIGNS_OF_WORD) {
            throw new UnsupportedOperationException("the buffer is no spelling of an exception");
        }
        boolean was = entry.isException();
        entry.told.copy(buffer);
        buffer.empty();
        return was;
    }

    // Spelling

    public int letters(int word, int orthography)
            throws IndexOutOfBoundsException, IllegalArgumentException {
        return entryOf(word, orthography).spelled().length();
    }

    public char letterAt(int word, int orthography, int index)
            throws IndexOutOfBoundsException, IllegalArgumentException, NoSuchElementException {
        Text spelled = entryOf(word, orthography).spelled();
        if (index < 0 || index >= spelled.length()) {
            throw new NoSuchElementException("no such letter");
        }
        return spelled.at(index);
    }

    public int ruleOf(int word, int orthography, int sound)
            throws IndexOutOfBoundsException, IllegalArgumentException, NoSuchElementException {
        Row spelledBy = entryOf(word, orthography).whole.rulesOfSounds;
        if (sound < 0 || sound >= spelledBy.size()) {
            throw new NoSuchElementException("no such sound");
        }
        return spelledBy.at(sound);
    }

    public int used(int rule, int orthography)
            throws IndexOutOfBoundsException, IllegalArgumentException {
        ruleNumbered(rule);
        Orthography there = orthographyOf(orthography);
        int count = 0;
        for (int i = 0; i < there.entries.size(); i++) {
            Entry entry = there.entries.get(i);
            if (!entry.isException() && entry.whole.rulesOfSounds.has(rule)) {
                count++;
            }
        }
        return count;
    }

    public int readings(int orthography)
            throws IllegalArgumentException, UnsupportedOperationException {
        Orthography there = orthographyOf(orthography);
        needLetters();
        int count = 0;
        for (int i = 0; i < there.entries.size(); i++) {
            if (there.entries.get(i).isSpelled(buffer)) {
                count++;
            }
        }
        return count;
    }

    public int readingAt(int orthography, int index)
            throws IllegalArgumentException, UnsupportedOperationException, NoSuchElementException {
        Orthography there = orthographyOf(orthography);
        needLetters();
        int found = nthReading(there, index);
        if (found == NONE) {
            throw new NoSuchElementException("there are not so many readings");
        }
        return found;
    }

    public int convert(int from, int to)
            throws IllegalArgumentException, UnsupportedOperationException,
            NoSuchElementException, IllegalStateException {
        Orthography here = orthographyOf(from);
        Orthography there = orthographyOf(to);
        needLetters();
        int first = nthReading(here, 0);
        if (!there.has(first)) {
            throw new NoSuchElementException("there is no conversion");
        }
        Text converted = there.entries.get(first).spelled();
        if (isOpen(here, there, converted)) {
            throw new IllegalStateException("the conversion is open");
        }
        buffer.copy(converted);
        return buffer.length();
    }

    public char signAt(int index) throws NoSuchElementException {
        if (index < 0 || index >= buffer.length()) {
            throw new NoSuchElementException("no such sign");
        }
        return buffer.at(index);
    }

    public int homographs(int orthography) throws IllegalArgumentException {
        Orthography there = orthographyOf(orthography);
        int pairs = 0;
        for (int i = 0; i < words.size(); i++) {
            for (int j = i + 1; j < words.size(); j++) {
                if (there.areAlike(i, j)) {
                    pairs++;
                }
            }
        }
        return pairs;
    }

    public int lost(int orthography, int to) throws IllegalArgumentException {
        Orthography here = orthographyOf(orthography);
        Orthography there = orthographyOf(to);
        int pairs = 0;
        for (int i = 0; i < words.size(); i++) {
            for (int j = i + 1; j < words.size(); j++) {
                if (there.areAlike(i, j) && !here.areAlike(i, j)) {
                    pairs++;
                }
            }
        }
        return pairs;
    }

    public int rank(int word, int orthography)
            throws IndexOutOfBoundsException, IllegalArgumentException {
        wordNumbered(word);
        return orthographyOf(orthography).rankOf(word);
    }

    public int moved(int orthography, int to) throws IllegalArgumentException {
        Orthography here = orthographyOf(orthography);
        Orthography there = orthographyOf(to);
        int count = 0;
        for (int i = 0; i < words.size(); i++) {
            if (here.rankOf(i) != there.rankOf(i)) {
                count++;
            }
        }
        return count;
    }

    public int breaks(int word, int orthography)
            throws IndexOutOfBoundsException, IllegalArgumentException {
        Text spelled = entryOf(word, orthography).spelled();
        int count = 0;
        for (int place = 0; place < spelled.length(); place++) {
            if (canBreak(spelled, place)) {
                count++;
            }
        }
        return count;
    }

    public int breakAt(int word, int orthography, int index)
            throws IndexOutOfBoundsException, IllegalArgumentException, NoSuchElementException {
        int place = nthBreak(entryOf(word, orthography).spelled(), index);
        if (place == NONE) {
            throw new NoSuchElementException("there are not so many places");
        }
        return place;
    }

    // Goals and committees

    public int score(char school, int orthography) throws IllegalArgumentException {
        if (school != 's' && school != 't' && school != 'h') {
            throw new IllegalArgumentException("no such school");
        }
        Orthography there = orthographyOf(orthography);
        if (school == 's') {
            return scoreBySound(there);
        }
        return school == 't' ? scoreByStem(there) : scoreByHistory(there);
    }

    public int cost(int orthography, int to) throws IllegalArgumentException {
        Orthography here = orthographyOf(orthography);
        Orthography there = orthographyOf(to);
        int sum = 0;
        for (int i = 0; i < here.entries.size() && i < there.entries.size(); i++) {
            Entry entry = here.entries.get(i);
            if (!entry.word.isName && !there.entries.get(i).isSpelled(entry.spelled())) {
                sum += entry.word.use;
            }
        }
        return sum;
    }

    public int vote(int state, int rule, boolean isFor)
            throws IllegalArgumentException, IndexOutOfBoundsException {
        needState(state);
        Rule told = ruleNumbered(rule);
        told.votes = withState(told.votes, state, isFor);
        return Integer.bitCount(told.votes);
    }

    public boolean bar(int state, int rule, boolean isBarred)
            throws IllegalArgumentException, IndexOutOfBoundsException {
        needState(state);
        Rule told = ruleNumbered(rule);
        boolean did = (told.bars & (1 << state)) != 0;
        told.bars = withState(told.bars, state, isBarred);
        return did;
    }

    public int draft(int orthography, int rule)
            throws IllegalArgumentException, IndexOutOfBoundsException, UnsupportedOperationException {
        Orthography there = orthographyOf(orthography);
        ruleNumbered(rule);
        if (there.drafted.has(rule) || there.isInForce(rule)) {
            throw new UnsupportedOperationException("it is in the row or in force");
        }
        there.drafted.add(rule);
        return there.drafted.size();
    }

    public int hear(int orthography) throws IllegalArgumentException {
        Orthography there = orthographyOf(orthography);
        Row drafted = there.drafted;
        int count = 0;
        int at = 0;
        for (int left = drafted.size(); left > 0; left--) {
            int number = drafted.at(at);
            if (!isAgreed(number)) {
                drafted.removeAt(at);
            } else if (clashesThere(rules.get(number), there)) {
                at++;
            } else {
                there.putInForce(number, true);
                drafted.removeAt(at);
                count++;
            }
        }
        spellAll(there);
        return count;
    }

    public int draftAt(int orthography, int index)
            throws IllegalArgumentException, NoSuchElementException {
        Row drafted = orthographyOf(orthography).drafted;
        if (index < 0 || index >= drafted.size()) {
            throw new NoSuchElementException("there are not so many rules in the row");
        }
        return drafted.at(index);
    }

    // Decrees and judging

    public int decree(int year, int orthography)
            throws IllegalArgumentException, IllegalStateException {
        needYear(year);
        orthographyOf(orthography);
        if (decrees.size() >= MOST_DECREES) {
            throw new IllegalStateException("there are 12 decrees");
        }
        decrees.add(new Decree(year, orthography));
        return decrees.size() - 1;
    }

    public boolean strike(int decree, boolean isStruck) throws IndexOutOfBoundsException {
        if (decree < 0 || decree >= decrees.size()) {
            throw new IndexOutOfBoundsException("no such decree");
        }
        Decree told = decrees.get(decree);
        boolean was = told.isStruck;
        told.isStruck = isStruck;
        return was;
    }

    public int setGrace(int years) throws IllegalArgumentException {
        if (years < 0 || years > MOST_GRACE) {
            throw new IllegalArgumentException("the years are out of range");
        }
        int before = grace;
        grace = years;
        return before;
    }

    public int right(int year) throws IllegalArgumentException {
        needYear(year);
        return rightIn(year);
    }

    public int borne(int year) throws IllegalArgumentException {
        needYear(year);
        return borneIn(year);
    }

    public int keep(int house, int orthography) throws IllegalArgumentException {
        House told = houseOf(house);
        if (orthography != NONE) {
            orthographyOf(orthography);
        }
        int before = told.kept;
        told.kept = orthography;
        return before;
    }

    public char judge(int word, int year, int house)
            throws IndexOutOfBoundsException, IllegalArgumentException, UnsupportedOperationException {
        Word told = wordNumbered(word);
        needYear(year);
        int kept = houseOf(house).kept;
        needLetters();
        if (told.isName) {
            return 'n';
        }
        if (isSpelledIn(kept == NONE ? rightIn(year) : kept, word, buffer)) {
            return 'r';
        }
        return kept == NONE && isSpelledIn(borneIn(year), word, buffer) ? 'o' : 'w';
    }

    // People, books and the corpus

    public int reader() throws IllegalStateException {
        if (readers.size() >= MOST_READERS) {
            throw new IllegalStateException("there are 10 readers");
        }
        readers.add(new Reader(firstOne));
        return readers.size() - 1;
    }

    public int learn(int reader, int orthography)
            throws IndexOutOfBoundsException, IllegalArgumentException, IllegalStateException {
        Reader learning = readerNumbered(reader);
        Orthography next = orthographyOf(orthography);
        if (learning.learned >= MOST_LEARNED) {
            throw new IllegalStateException("the reader has learned 8");
        }
        learning.goOnTo(next);
        return learning.learned;
    }

    public int write(int reader, int word) throws IndexOutOfBoundsException {
        Reader writing = readerNumbered(reader);
        buffer.copy(writing.written(entryThere(writing.last, word)));
        return buffer.length();
    }

    public int mistakes(int reader, int year)
            throws IndexOutOfBoundsException, IllegalArgumentException {
        Reader writing = readerNumbered(reader);
        needYear(year);
        int rightOne = rightIn(year);
        int borneOne = borneIn(year);
        int sum = 0;
        for (int i = 0; i < writing.last.entries.size(); i++) {
            Entry entry = writing.last.entries.get(i);
            Text written = writing.written(entry);
            if (!entry.word.isName && !isSpelledIn(rightOne, i, written)
                    && !isSpelledIn(borneOne, i, written)) {
                sum += entry.word.use;
            }
        }
        return sum;
    }

    public int print(int house, int orthography, int copies)
            throws IllegalArgumentException, IllegalStateException {
        House printing = houseOf(house);
        orthographyOf(orthography);
        needCopies(copies);
        if (printing.copies.size() >= MOST_EDITIONS) {
            throw new IllegalStateException("the house has 20 editions");
        }
        printing.orthographies.add(orthography);
        printing.copies.add(copies);
        return printing.copies.sum();
    }

    public int sell(int house, int copies)
            throws IllegalArgumentException, UnsupportedOperationException {
        House selling = houseOf(house);
        needCopies(copies);
        if (selling.copies.sum() < copies) {
            throw new UnsupportedOperationException("the house has not so many copies");
        }
        selling.takeOldest(copies);
        return selling.copies.size();
    }

    public int pulp(int house, int year) throws IllegalArgumentException {
        House pulping = houseOf(house);
        needYear(year);
        return pulping.pulpOthers(rightIn(year), borneIn(year));
    }

    public int collect(int word, int year)
            throws IndexOutOfBoundsException, IllegalArgumentException,
            UnsupportedOperationException, IllegalStateException {
        wordNumbered(word);
        needYear(year);
        needLetters();
        if (corpus.size() >= MOST_TEXTS) {
            throw new IllegalStateException("there are 60 texts");
        }
        corpus.add(new Collected(buffer, word, year));
        buffer.empty();
        return corpus.size();
    }

    public int adoption(int orthography, int year)
            throws IllegalArgumentException, NoSuchElementException {
        Orthography there = orthographyOf(orthography);
        needYear(year);
        int all = 0;
        int spelledSo = 0;
        for (int i = 0; i < corpus.size(); i++) {
            Collected text = corpus.get(i);
            if (text.year == year) {
                all++;
                if (there.spells(text.word, text.text)) {
                    spelledSo++;
                }
            }
        }
        if (all == 0) {
            throw new NoSuchElementException("there are no texts of this year");
        }
        return 1000 * spelledSo / all;
    }

    // Figures

    public long checksum(int orthography) throws IllegalArgumentException {
        Orthography there = orthographyOf(orthography);
        long sum = 0L;
        for (int i = 0; i < there.entries.size(); i++) {
            Text spelled = there.entries.get(i).spelled();
            for (int k = 0; k < spelled.length(); k++) {
                sum = 31L * sum + (long) spelled.at(k);
            }
        }
        return sum;
    }

    public float soundShare(int orthography) throws IllegalArgumentException, ArithmeticException {
        Orthography there = orthographyOf(orthography);
        int all = there.entries.size();
        if (all == 0) {
            throw new ArithmeticException("there are no words");
        }
        int count = 0;
        for (int i = 0; i < all; i++) {
            if (there.entries.get(i).isAsItSounds()) {
                count++;
            }
        }
        return (float) count / (float) all;
    }

    public double meanLetters(int orthography) throws IllegalArgumentException, ArithmeticException {
        Orthography there = orthographyOf(orthography);
        int all = there.entries.size();
        if (all == 0) {
            throw new ArithmeticException("there are no words");
        }
        int sum = 0;
        for (int i = 0; i < all; i++) {
            sum += there.entries.get(i).spelled().length();
        }
        return (double) sum / (double) all;
    }

    public boolean isSound() {
        for (int i = 0; i < orthographies.size(); i++) {
            Orthography there = orthographies.get(i);
            for (int k = 0; k < rules.size(); k++) {
                if (there.isInForce(k) && clashesThere(rules.get(k), there)) {
                    return false;
                }
            }
        }
        return true;
    }

    // What numbers stand for, or the exception that is due for them

    private Word wordNumbered(int number) {
        if (number < 0 || number >= words.size()) {
            throw new IndexOutOfBoundsException("no such word");
        }
        return words.get(number);
    }

    private Rule ruleNumbered(int number) {
        if (number < 0 || number >= rules.size()) {
            throw new IndexOutOfBoundsException("no such rule");
        }
        return rules.get(number);
    }

    private Reader readerNumbered(int number) {
        if (number < 0 || number >= readers.size()) {
            throw new IndexOutOfBoundsException("no such reader");
        }
        return readers.get(number);
    }

    private Orthography orthographyOf(int number) {
        if (number < 0 || number >= orthographies.size()) {
            throw new IllegalArgumentException("no such orthography");
        }
        return orthographies.get(number);
    }

    private House houseOf(int number) {
        if (number < 0 || number >= houses.size()) {
            throw new IllegalArgumentException("no such house");
        }
        return houses.get(number);
    }

    private Entry entryOf(int word, int orthography) {
        wordNumbered(word);
        return entryThere(orthographyOf(orthography), word);
    }

    private static Entry entryThere(Orthography there, int word) {
        if (!there.has(word)) {
            throw new IndexOutOfBoundsException("no such word");
        }
        return there.entries.get(word);
    }

    private static void needYear(int year) {
        if (year < 0 || year > LAST_YEAR) {
            throw new IllegalArgumentException("the year is out of range");
        }
    }

    private static void needState(int state) {
        if (state < 0 || state >= STATES) {
            throw new IllegalArgumentException("no such state");
        }
    }

    private static void needCopies(int copies) {
        if (copies < 1 || copies > MOST_COPIES) {
            throw new IllegalArgumentException("the number of copies is out of range");
        }
    }

    private void needLetters() {
        if (buffer.length() == 0 || buffer.has('-')) {
            throw new UnsupportedOperationException("the buffer is not of letters alone");
        }
    }

    // Signs and typed texts

    private static boolean isLetter(char sign) {
        return sign >= 'a' && sign <= 'z';
    }

    private static boolean isVowel(char sign) {
        return sign == 'a' || sign == 'e' || sign == 'i' || sign == 'o' || sign == 'u';
    }

    private static boolean isPlace(char sign) {
        return sign == 'a' || sign == 'b' || sign == 'e' || sign == 'v';
    }

    /** Whether each - of the text stands between letters, and it is not too long. */
    private static boolean isWord(Text typed) {
        if (typed.length() < 1 || typed.length() > MOST_SIGNS_OF_WORD) {
            return false;
        }
        for (int i = 0; i < typed.length(); i++) {
            if (typed.at(i) == '-' && (!isLetter(typed.at(i - 1)) || !isLetter(typed.at(i + 1)))) {
                return false;
            }
        }
        return true;
    }

    private static boolean isRule(Text typed) {
        int dash = typed.indexOf('-');
        if (dash < 1 || dash > MOST_SIGNS_OF_PART) {
            return false;
        }
        int behind = typed.length() - dash - 1;
        if (behind < 1 || behind > MOST_SIGNS_OF_PART) {
            return false;
        }
        for (int i = dash + 1; i < typed.length(); i++) {
            if (typed.at(i) == '-') {
                return false;
            }
        }
        return true;
    }

    // Spelling by rules

    private void spellAll(Orthography there) {
        for (int i = 0; i < there.entries.size(); i++) {
            Entry entry = there.entries.get(i);
            Word word = entry.word;
            spellText(word.text, word.origin, there, entry.whole);
            spellText(word.stem, word.origin, there, entry.stem);
        }
    }

    private void spellText(Text text, int origin, Orthography there, Spelling into) {
        into.empty();
        int step = 1;
        for (int at = 0; at < text.length(); at += step) {
            step = 1;
            if (text.at(at) == '-') {
                continue;
            }
            int number = firstRuleAt(text, at, origin, there);
            if (number < 0 || number >= rules.size()) {
                into.addOwnLetter(text.at(at));
            } else {
                into.addByRule(rules.get(number), number);
                step = Math.max(1, rules.get(number).sounds.length());
            }
        }
    }

    private int firstRuleAt(Text text, int at, int origin, Orthography there) {
        for (int i = 0; i < rules.size(); i++) {
            if (there.isInForce(i) && rules.get(i).spellsAt(text, at, origin)) {
                return i;
            }
        }
        return NONE;
    }

    private boolean clashesThere(Rule rule, Orthography there) {
        for (int i = 0; i < rules.size(); i++) {
            if (there.isInForce(i) && rule.clashesWith(rules.get(i))) {
                return true;
            }
        }
        return false;
    }

    // Readings, homographs, ranks and breaks

    private int nthReading(Orthography there, int index) {
        int left = index;
        for (int i = 0; i < there.entries.size(); i++) {
            if (there.entries.get(i).isSpelled(buffer)) {
                if (left == 0) {
                    return i;
                }
                left--;
            }
        }
        return NONE;
    }

    private boolean isOpen(Orthography here, Orthography there, Text converted) {
        for (int i = 0; i < here.entries.size() && i < there.entries.size(); i++) {
            if (here.entries.get(i).isSpelled(buffer) && !there.entries.get(i).isSpelled(converted)) {
                return true;
            }
        }
        return false;
    }

    private static boolean canBreak(Text spelled, int place) {
        return place >= 2 && spelled.length() - place >= 2
                && !isVowel(spelled.at(place)) && isVowel(spelled.at(place + 1))
                && hasVowelAhead(spelled, place);
    }

    private static boolean hasVowelAhead(Text spelled, int place) {
        for (int i = 0; i < place; i++) {
            if (isVowel(spelled.at(i))) {
                return true;
            }
        }
        return false;
    }

    private static int nthBreak(Text spelled, int index) {
        int left = index;
        for (int place = 0; place < spelled.length(); place++) {
            if (canBreak(spelled, place)) {
                if (left == 0) {
                    return place;
                }
                left--;
            }
        }
        return NONE;
    }

    // Scores

    private static int scoreBySound(Orthography there) {
        int sum = 0;
        for (int i = 0; i < there.entries.size(); i++) {
            Entry entry = there.entries.get(i);
            if (entry.isAsItSounds()) {
                sum += entry.word.use;
            }
        }
        return sum;
    }

    private static int scoreByStem(Orthography there) {
        int pairs = 0;
        for (int i = 0; i < there.entries.size(); i++) {
            for (int j = i + 1; j < there.entries.size(); j++) {
                if (there.entries.get(i).hasSameStem(there.entries.get(j))) {
                    pairs++;
                }
            }
        }
        return pairs;
    }

    private int scoreByHistory(Orthography there) {
        int sum = 0;
        for (int i = 0; i < there.entries.size(); i++) {
            Entry entry = there.entries.get(i);
            if (entry.word.origin != 0 && firstOne.spells(i, entry.spelled())) {
                sum += entry.word.use;
            }
        }
        return sum;
    }

    // Committees and years

    private static int withState(int states, int state, boolean isIn) {
        return isIn ? states | (1 << state) : states & ~(1 << state);
    }

    private boolean isAgreed(int rule) {
        return rule >= 0 && rule < rules.size() && rules.get(rule).isAgreed();
    }

    /** The decree that rules in the year, null without one. */
    private Decree rulingIn(int year) {
        Decree ruling = null;
        for (int i = 0; i < decrees.size(); i++) {
            Decree next = decrees.get(i);
            if (!next.isStruck && next.year <= year && (ruling == null || next.year >= ruling.year)) {
                ruling = next;
            }
        }
        return ruling;
    }

    private int rightIn(int year) {
        Decree ruling = rulingIn(year);
        return ruling == null ? 0 : ruling.orthography;
    }

    private int borneIn(int year) {
        Decree ruling = rulingIn(year);
        if (ruling == null || ruling.year == 0 || year - ruling.year >= grace) {
            return NONE;
        }
        int before = rightIn(ruling.year - 1);
        return before == ruling.orthography ? NONE : before;
    }

    /** False for the orthography NONE. */
    private boolean isSpelledIn(int orthography, int word, Text text) {
        return orthography >= 0 && orthography < orthographies.size()
                && orthographies.get(orthography).spells(word, text);
    }

    /** Signs in a row, with room for the longest spelling. */
    private static final class Text {
        private final char[] signs = new char[ROOM_OF_TEXT];
        private int length;

        int length() {
            return length;
        }

        /** The sign there, or NO_SIGN outside, so that neighbours can be asked for at the ends. */
        char at(int index) {
            return index >= 0 && index < length && index < signs.length ? signs[index] : NO_SIGN;
        }

        void add(char sign) {
            if (length >= 0 && length < signs.length) {
                signs[length] = sign;
                length++;
            }
        }

        void addAll(Text other) {
            for (int i = 0; i < other.length; i++) {
                add(other.at(i));
            }
        }

        void empty() {
            length = 0;
        }

        void copy(Text other) {
            empty();
            addAll(other);
        }

        int indexOf(char sign) {
            for (int i = 0; i < length; i++) {
                if (at(i) == sign) {
                    return i;
                }
            }
            return NONE;
        }

        boolean has(char sign) {
            return indexOf(sign) != NONE;
        }

        boolean isSame(Text other) {
            return length == other.length && hasPart(0, other);
        }

        boolean hasPart(int from, Text part) {
            for (int i = 0; i < part.length; i++) {
                if (at(from + i) != part.at(i)) {
                    return false;
                }
            }
            return true;
        }

        /** Less than 0 if this comes ahead of the other, more than 0 if behind it. */
        int order(Text other) {
            for (int i = 0; i < length && i < other.length; i++) {
                if (at(i) != other.at(i)) {
                    return at(i) - other.at(i);
                }
            }
            return length - other.length;
        }

        /** The sound ahead of a place, in another morpheme, too. */
        char soundAhead(int place) {
            return at(place - 1) == '-' ? at(place - 2) : at(place - 1);
        }

        /** The sound behind what ends ahead of a place, in another morpheme, too. */
        char soundBehind(int place) {
            return at(place) == '-' ? at(place + 1) : at(place);
        }
    }

    /** Numbers in a row. */
    private static final class Row {
        private final int[] numbers = new int[ROOM_OF_ROW];
        private int size;

        int size() {
            return size;
        }

        int at(int index) {
            return index >= 0 && index < size && index < numbers.length ? numbers[index] : NONE;
        }

        void add(int number) {
            if (size >= 0 && size < numbers.length) {
                numbers[size] = number;
                size++;
            }
        }

        void put(int index, int number) {
            if (index >= 0 && index < size && index < numbers.length) {
                numbers[index] = number;
            }
        }

        void removeAt(int index) {
            if (index < 0 || index >= size) {
                return;
            }
            for (int i = index; i < size - 1; i++) {
                put(i, at(i + 1));
            }
            size--;
        }

        void empty() {
            size = 0;
        }

        boolean has(int number) {
            for (int i = 0; i < size; i++) {
                if (at(i) == number) {
                    return true;
                }
            }
            return false;
        }

        int sum() {
            int sum = 0;
            for (int i = 0; i < size; i++) {
                sum += at(i);
            }
            return sum;
        }
    }

    private static final class Word {
        /** As typed: its sounds, with - between morphemes. */
        final Text text = new Text();
        final Text sounds = new Text();
        /** The first morpheme. */
        final Text stem = new Text();
        final int origin;
        final int use;
        final boolean isName;

        Word(Text typed, int origin, int use, boolean isName) {
            this.origin = origin;
            this.use = use;
            this.isName = isName;
            text.copy(typed);
            boolean isInStem = true;
            for (int i = 0; i < typed.length(); i++) {
                char sign = typed.at(i);
                isInStem = isInStem && sign != '-';
                if (sign != '-') {
                    sounds.add(sign);
                }
                if (isInStem) {
                    stem.add(sign);
                }
            }
        }
    }

    private static final class Rule {
        final Text sounds = new Text();
        final Text letters = new Text();
        final char place;
        final int origin;
        /** The states that vote for it, a bit for each. */
        int votes;
        /** The states that bar it, a bit for each. */
        int bars;

        Rule(Text typed, char place, int origin) {
            this.place = place;
            this.origin = origin;
            int dash = typed.indexOf('-');
            for (int i = 0; i < typed.length(); i++) {
                if (i < dash) {
                    sounds.add(typed.at(i));
                } else if (i > dash) {
                    letters.add(typed.at(i));
                }
            }
        }

        boolean isAgreed() {
            return bars == 0 && Integer.bitCount(votes) > HALF_OF_VOTES;
        }

        boolean clashesWith(Rule other) {
            return sounds.isSame(other.sounds) && !letters.isSame(other.letters)
                    && (place == other.place || place == 'a' || other.place == 'a')
                    && (origin == other.origin || origin == FOR_ALL || other.origin == FOR_ALL);
        }

        boolean spellsAt(Text text, int at, int ofOrigin) {
            if (origin != FOR_ALL && origin != ofOrigin || !text.hasPart(at, sounds)) {
                return false;
            }
            int behind = at + sounds.length();
            if (place == 'b') {
                return !isLetter(text.at(at - 1));
            }
            if (place == 'e') {
                return !isLetter(text.at(behind));
            }
            if (place == 'v') {
                return isVowel(text.soundAhead(at)) && isVowel(text.soundBehind(behind));
            }
            return true;
        }
    }

    /** What rules make of a text: its letters, and for each sound the rule that spells it. */
    private static final class Spelling {
        final Text letters = new Text();
        final Row rulesOfSounds = new Row();

        void empty() {
            letters.empty();
            rulesOfSounds.empty();
        }

        void addOwnLetter(char sound) {
            letters.add(sound);
            rulesOfSounds.add(NONE);
        }

        void addByRule(Rule rule, int number) {
            letters.addAll(rule.letters);
            for (int i = 0; i < rule.sounds.length(); i++) {
                rulesOfSounds.add(number);
            }
        }
    }

    /** A word in an orthography. */
    private static final class Entry {
        final Word word;
        final Spelling whole = new Spelling();
        /** The first morpheme, spelled by itself. */
        final Spelling stem = new Spelling();
        /** The spelling of an exception, empty if the word is none. */
        final Text told = new Text();

        Entry(Word word) {
            this.word = word;
        }

        boolean isException() {
            return told.length() > 0;
        }

        Text spelled() {
            return isException() ? told : whole.letters;
        }

        boolean isSpelled(Text text) {
            return spelled().isSame(text);
        }

        boolean isAsItSounds() {
            return isSpelled(word.sounds);
        }

        boolean hasSameStem(Entry other) {
            return word.stem.isSame(other.word.stem) && stem.letters.isSame(other.stem.letters);
        }
    }

    private static final class Orthography {
        private final boolean[] inForce = new boolean[MOST_RULES];
        /** The rules of its draft. */
        final Row drafted = new Row();
        /** By the numbers of the words; kept spelled by the rules that are in force now. */
        final ArrayList<Entry> entries = new ArrayList<Entry>();

        boolean isInForce(int rule) {
            return rule >= 0 && rule < inForce.length && inForce[rule];
        }

        void putInForce(int rule, boolean isIn) {
            if (rule >= 0 && rule < inForce.length) {
                inForce[rule] = isIn;
            }
        }

        boolean has(int word) {
            return word >= 0 && word < entries.size();
        }

        boolean spells(int word, Text text) {
            return has(word) && entries.get(word).isSpelled(text);
        }

        boolean areAlike(int first, int second) {
            return has(second) && spells(first, entries.get(second).spelled());
        }

        int rankOf(int word) {
            int ahead = 0;
            for (int i = 0; i < entries.size(); i++) {
                if (isAhead(i, word)) {
                    ahead++;
                }
            }
            return ahead;
        }

        private boolean isAhead(int word, int other) {
            if (!has(word) || !has(other)) {
                return false;
            }
            int order = entries.get(word).spelled().order(entries.get(other).spelled());
            return order < 0 || order == 0 && word < other;
        }
    }

    private static final class Decree {
        final int year;
        final int orthography;
        boolean isStruck;

        Decree(int year, int orthography) {
            this.year = year;
            this.orthography = orthography;
        }
    }

    private static final class House {
        /** The orthography of its own, NONE without one. */
        int kept = NONE;
        /** Its editions, the oldest first: the orthography and the copies of each. */
        final Row orthographies = new Row();
        final Row copies = new Row();

        /** Takes no more than there are; an edition without copies is none any more. */
        void takeOldest(int number) {
            int left = number;
            for (int editions = copies.size(); editions > 0 && left > 0; editions--) {
                int oldest = copies.at(0);
                if (oldest > left) {
                    copies.put(0, oldest - left);
                    left = 0;
                } else {
                    left -= oldest;
                    removeEdition(0);
                }
            }
        }

        int pulpOthers(int rightOne, int borneOne) {
            int pulped = 0;
            for (int i = copies.size() - 1; i >= 0; i--) {
                int orthography = orthographies.at(i);
                if (orthography != rightOne && orthography != borneOne) {
                    pulped += copies.at(i);
                    removeEdition(i);
                }
            }
            return pulped;
        }

        private void removeEdition(int index) {
            orthographies.removeAt(index);
            copies.removeAt(index);
        }
    }

    private static final class Reader {
        /** The orthography that was learned last. */
        Orthography last;
        int learned;

        Reader(Orthography atFirst) {
            last = atFirst;
        }

        void goOnTo(Orthography next) {
            last = next;
            learned++;
        }

        /** The entry is one of the last orthography. */
        Text written(Entry entry) {
            if (entry.word.isName) {
                return entry.word.sounds;
            }
            boolean isByRulesAlone = entry.word.use < RARE_BELOW && learned > 1;
            return isByRulesAlone ? entry.whole.letters : entry.spelled();
        }
    }

    /** A text of the corpus. */
    private static final class Collected {
        final Text text = new Text();
        final int word;
        final int year;

        Collected(Text typed, int word, int year) {
            text.copy(typed);
            this.word = word;
            this.year = year;
        }
    }
}
