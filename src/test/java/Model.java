import java.util.ArrayList;
import java.util.HashMap;
import java.util.HashSet;
import java.util.List;
import java.util.Map;
import java.util.NoSuchElementException;
import java.util.Set;

/**
 * The document told a second time, for comparison: nothing is kept that can be worked out anew,
 * and texts are Strings.
 */
final class Model {
    record Word(String text, int origin, int use, boolean isName) {
        String sounds() {
            return text.replace("-", "");
        }

        String first() {
            return text.split("-")[0];
        }
    }

    record Rule(String from, String to, char place, int origin) {
    }

    record Text(String letters, int word, int year) {
    }

    private static final class Decree {
        int year;
        int orthography;
        boolean struck;
    }

    private String buffer = "";
    private final List<Word> words = new ArrayList<>();
    private final List<Rule> rules = new ArrayList<>();
    private final List<Set<Integer>> forced = List.of(set(), set(), set(), set());
    private final List<Map<Integer, String>> told =
            List.of(new HashMap<>(), new HashMap<>(), new HashMap<>(), new HashMap<>());
    private final List<List<Integer>> drafts =
            List.of(new ArrayList<>(), new ArrayList<>(), new ArrayList<>(), new ArrayList<>());
    /** State * 100 + rule. */
    private final Set<Integer> votes = set();
    private final Set<Integer> bars = set();
    private final List<Decree> decrees = new ArrayList<>();
    private int grace = 5;
    private final int[] kept = {-1, -1, -1, -1, -1, -1, -1, -1};
    private final List<List<Integer>> readers = new ArrayList<>();
    /** House, orthography, copies; in the order of printing. */
    private final List<int[]> editions = new ArrayList<>();
    private final List<Text> corpus = new ArrayList<>();

    private static Set<Integer> set() {
        return new HashSet<>();
    }

    private static void argument(boolean isGood) {
        if (!isGood) {
            throw new IllegalArgumentException();
        }
    }

    private static void index(int number, List<?> list) {
        if (number < 0 || number >= list.size()) {
            throw new IndexOutOfBoundsException();
        }
    }

    private static void supported(boolean isGood) {
        if (!isGood) {
            throw new UnsupportedOperationException();
        }
    }

    private static void state(boolean isGood) {
        if (!isGood) {
            throw new IllegalStateException();
        }
    }

    private static void element(boolean isGood) {
        if (!isGood) {
            throw new NoSuchElementException();
        }
    }

    private static boolean in(int number, int from, int to) {
        return from <= number && number <= to;
    }

    private static void orthography(int number) {
        argument(in(number, 0, 3));
    }

    private static void year(int number) {
        argument(in(number, 0, 9999));
    }

    private void lettersInBuffer() {
        supported(buffer.matches("[a-z]+"));
    }

    // Spelling

    /** The rule for each sound, -1 if none. */
    private int[] rulesOf(String text, int origin, int orthography) {
        String sounds = text.replace("-", "");
        int[] morpheme = new int[sounds.length()];
        int at = 0;
        int which = 0;
        for (char sign : text.toCharArray()) {
            if (sign == '-') {
                which++;
            } else {
                morpheme[at++] = which;
            }
        }
        int[] result = new int[sounds.length()];
        for (int i = 0; i < result.length; ) {
            int rule = firstFit(sounds, morpheme, i, origin, orthography);
            int length = rule < 0 ? 1 : rules.get(rule).from().length();
            for (int k = 0; k < length; k++) {
                result[i + k] = rule;
            }
            i += length;
        }
        return result;
    }

    private int firstFit(String sounds, int[] morpheme, int i, int origin, int orthography) {
        for (int r = 0; r < rules.size(); r++) {
            Rule rule = rules.get(r);
            if (!forced.get(orthography).contains(r) || !sounds.startsWith(rule.from(), i)) {
                continue;
            }
            int end = i + rule.from().length();
            boolean fits = morpheme[end - 1] == morpheme[i]
                    && (rule.origin() < 0 || rule.origin() == origin);
            boolean begins = i == 0 || morpheme[i - 1] != morpheme[i];
            boolean ends = end == sounds.length() || morpheme[end] != morpheme[i];
            boolean between = i > 0 && end < sounds.length()
                    && "aeiou".indexOf(sounds.charAt(i - 1)) >= 0
                    && "aeiou".indexOf(sounds.charAt(end)) >= 0;
            switch (rule.place()) {
                case 'b': fits &= begins; break;
                case 'e': fits &= ends; break;
                case 'v': fits &= between; break;
                default: break;
            }
            if (fits) {
                return r;
            }
        }
        return -1;
    }

    private String byRules(String text, int origin, int orthography) {
        String sounds = text.replace("-", "");
        int[] used = rulesOf(text, origin, orthography);
        StringBuilder letters = new StringBuilder();
        for (int i = 0; i < used.length; ) {
            if (used[i] < 0) {
                letters.append(sounds.charAt(i++));
            } else {
                letters.append(rules.get(used[i]).to());
                i += rules.get(used[i]).from().length();
            }
        }
        return letters.toString();
    }

    private String spelled(int word, int orthography) {
        String exception = told.get(orthography).get(word);
        Word w = words.get(word);
        return exception != null ? exception : byRules(w.text(), w.origin(), orthography);
    }

    private boolean clashes(int first, int second) {
        Rule a = rules.get(first);
        Rule b = rules.get(second);
        return a.from().equals(b.from()) && !a.to().equals(b.to())
                && (a.place() == b.place() || a.place() == 'a' || b.place() == 'a')
                && (a.origin() == b.origin() || a.origin() == -1 || b.origin() == -1);
    }

    private boolean clashesIn(int orthography, int rule) {
        return forced.get(orthography).stream().anyMatch(other -> clashes(rule, other));
    }

    // Words and rules

    int type(char sign) {
        argument(String.valueOf(sign).matches("[a-z-]"));
        state(buffer.length() < 24);
        buffer += sign;
        return buffer.length();
    }

    int clear() {
        int before = buffer.length();
        buffer = "";
        return before;
    }

    int word(int origin, int use, boolean isName) {
        argument(in(origin, 0, 4) && in(use, 1, 999));
        supported(buffer.matches("[a-z]+(-[a-z]+)*") && buffer.length() <= 16);
        state(words.size() < 40);
        words.add(new Word(buffer, origin, use, isName));
        buffer = "";
        return words.size() - 1;
    }

    int rule(char place, int origin) {
        argument("abev".indexOf(place) >= 0 && in(origin, -1, 4));
        supported(buffer.matches("[a-z]{1,3}-[a-z]{1,3}"));
        state(rules.size() < 40);
        String[] parts = buffer.split("-");
        rules.add(new Rule(parts[0], parts[1], place, origin));
        buffer = "";
        return rules.size() - 1;
    }

    boolean force(int orthography, int rule, boolean isIn) {
        orthography(orthography);
        index(rule, rules);
        supported(!isIn || !clashesIn(orthography, rule));
        boolean was = forced.get(orthography).contains(rule);
        if (isIn) {
            forced.get(orthography).add(rule);
        } else {
            forced.get(orthography).remove(rule);
        }
        return was;
    }

    boolean clash(int first, int second) {
        index(first, rules);
        index(second, rules);
        return clashes(first, second);
    }

    boolean except(int word, int orthography) {
        index(word, words);
        orthography(orthography);
        supported(buffer.matches("[a-z]{0,16}"));
        Map<Integer, String> there = told.get(orthography);
        String before = buffer.isEmpty() ? there.remove(word) : there.put(word, buffer);
        buffer = "";
        return before != null;
    }

    // Spelling

    int letters(int word, int orthography) {
        index(word, words);
        orthography(orthography);
        return spelled(word, orthography).length();
    }

    char letterAt(int word, int orthography, int index) {
        int all = letters(word, orthography);
        element(in(index, 0, all - 1));
        return spelled(word, orthography).charAt(index);
    }

    int ruleOf(int word, int orthography, int sound) {
        index(word, words);
        orthography(orthography);
        Word w = words.get(word);
        element(in(sound, 0, w.sounds().length() - 1));
        return rulesOf(w.text(), w.origin(), orthography)[sound];
    }

    int used(int rule, int orthography) {
        index(rule, rules);
        orthography(orthography);
        int count = 0;
        for (int i = 0; i < words.size(); i++) {
            Word w = words.get(i);
            boolean isUsed = false;
            for (int number : rulesOf(w.text(), w.origin(), orthography)) {
                isUsed |= number == rule;
            }
            count += isUsed && !told.get(orthography).containsKey(i) ? 1 : 0;
        }
        return count;
    }

    private List<Integer> read(int orthography) {
        orthography(orthography);
        lettersInBuffer();
        List<Integer> found = new ArrayList<>();
        for (int i = 0; i < words.size(); i++) {
            if (spelled(i, orthography).equals(buffer)) {
                found.add(i);
            }
        }
        return found;
    }

    int readings(int orthography) {
        return read(orthography).size();
    }

    int readingAt(int orthography, int index) {
        List<Integer> found = read(orthography);
        element(in(index, 0, found.size() - 1));
        return found.get(index);
    }

    int convert(int from, int to) {
        orthography(from);
        orthography(to);
        Set<String> converted = new HashSet<>();
        for (int word : read(from)) {
            converted.add(spelled(word, to));
        }
        element(!converted.isEmpty());
        state(converted.size() == 1);
        buffer = converted.iterator().next();
        return buffer.length();
    }

    char signAt(int index) {
        element(in(index, 0, buffer.length() - 1));
        return buffer.charAt(index);
    }

    private boolean alike(int first, int second, int orthography) {
        return spelled(first, orthography).equals(spelled(second, orthography));
    }

    int homographs(int orthography) {
        orthography(orthography);
        int pairs = 0;
        for (int j = 0; j < words.size(); j++) {
            for (int i = 0; i < j; i++) {
                pairs += alike(i, j, orthography) ? 1 : 0;
            }
        }
        return pairs;
    }

    int lost(int orthography, int to) {
        orthography(orthography);
        orthography(to);
        int pairs = 0;
        for (int j = 0; j < words.size(); j++) {
            for (int i = 0; i < j; i++) {
                pairs += alike(i, j, to) && !alike(i, j, orthography) ? 1 : 0;
            }
        }
        return pairs;
    }

    private List<Integer> sorted(int orthography) {
        List<Integer> order = new ArrayList<>();
        for (int i = 0; i < words.size(); i++) {
            order.add(i);
        }
        order.sort((a, b) -> spelled(a, orthography).compareTo(spelled(b, orthography)));
        return order;
    }

    int rank(int word, int orthography) {
        index(word, words);
        orthography(orthography);
        return sorted(orthography).indexOf(word);
    }

    int moved(int orthography, int to) {
        orthography(orthography);
        orthography(to);
        List<Integer> here = sorted(orthography);
        List<Integer> there = sorted(to);
        int count = 0;
        for (int i = 0; i < here.size(); i++) {
            count += here.get(i).equals(there.get(i)) ? 0 : 1;
        }
        return count;
    }

    private List<Integer> places(int word, int orthography) {
        index(word, words);
        orthography(orthography);
        String letters = spelled(word, orthography);
        List<Integer> places = new ArrayList<>();
        for (int p = 2; p <= letters.length() - 2; p++) {
            if (letters.substring(0, p).matches(".*[aeiou].*")
                    && letters.substring(p).matches("[^aeiou][aeiou].*")) {
                places.add(p);
            }
        }
        return places;
    }

    int breaks(int word, int orthography) {
        return places(word, orthography).size();
    }

    int breakAt(int word, int orthography, int index) {
        List<Integer> places = places(word, orthography);
        element(in(index, 0, places.size() - 1));
        return places.get(index);
    }

    // Goals and committees

    int score(char school, int orthography) {
        argument("sth".indexOf(school) >= 0);
        orthography(orthography);
        int score = 0;
        for (int i = 0; i < words.size(); i++) {
            Word w = words.get(i);
            String letters = spelled(i, orthography);
            if (school == 's') {
                score += letters.equals(w.sounds()) ? w.use() : 0;
            } else if (school == 'h') {
                score += w.origin() > 0 && letters.equals(spelled(i, 0)) ? w.use() : 0;
            } else {
                for (Word other : words.subList(0, i)) {
                    String stem = byRules(w.first(), w.origin(), orthography);
                    score += other.first().equals(w.first())
                            && byRules(w.first(), other.origin(), orthography).equals(stem) ? 1 : 0;
                }
            }
        }
        return score;
    }

    int cost(int orthography, int to) {
        orthography(orthography);
        orthography(to);
        int cost = 0;
        for (int i = 0; i < words.size(); i++) {
            boolean isAlike = spelled(i, orthography).equals(spelled(i, to));
            cost += isAlike || words.get(i).isName() ? 0 : words.get(i).use();
        }
        return cost;
    }

    private static boolean setTo(Set<Integer> set, int number, boolean isIn) {
        return isIn ? !set.add(number) : set.remove(number);
    }

    private static int count(Set<Integer> set, int rule) {
        return (int) set.stream().filter(number -> number % 100 == rule).count();
    }

    int vote(int state, int rule, boolean isFor) {
        argument(in(state, 0, 5));
        index(rule, rules);
        setTo(votes, state * 100 + rule, isFor);
        return count(votes, rule);
    }

    boolean bar(int state, int rule, boolean isBarred) {
        argument(in(state, 0, 5));
        index(rule, rules);
        return setTo(bars, state * 100 + rule, isBarred);
    }

    int draft(int orthography, int rule) {
        orthography(orthography);
        index(rule, rules);
        supported(!drafts.get(orthography).contains(rule)
                && !forced.get(orthography).contains(rule));
        drafts.get(orthography).add(rule);
        return drafts.get(orthography).size();
    }

    int hear(int orthography) {
        orthography(orthography);
        List<Integer> staying = new ArrayList<>();
        int put = 0;
        for (int rule : drafts.get(orthography)) {
            if (count(bars, rule) == 0 && count(votes, rule) > 3) {
                if (clashesIn(orthography, rule)) {
                    staying.add(rule);
                } else {
                    forced.get(orthography).add(rule);
                    put++;
                }
            }
        }
        drafts.get(orthography).clear();
        drafts.get(orthography).addAll(staying);
        return put;
    }

    int draftAt(int orthography, int index) {
        orthography(orthography);
        element(in(index, 0, drafts.get(orthography).size() - 1));
        return drafts.get(orthography).get(index);
    }

    // Decrees and judging

    int decree(int year, int orthography) {
        year(year);
        orthography(orthography);
        state(decrees.size() < 12);
        Decree decree = new Decree();
        decree.year = year;
        decree.orthography = orthography;
        decrees.add(decree);
        return decrees.size() - 1;
    }

    boolean strike(int decree, boolean isStruck) {
        index(decree, decrees);
        boolean was = decrees.get(decree).struck;
        decrees.get(decree).struck = isStruck;
        return was;
    }

    int setGrace(int years) {
        argument(in(years, 0, 99));
        int before = grace;
        grace = years;
        return before;
    }

    /** Year by year, down from the one asked for; the last one told of a year first. */
    private Decree ruling(int year) {
        for (int y = year; y >= 0; y--) {
            for (int i = decrees.size() - 1; i >= 0; i--) {
                if (decrees.get(i).year == y && !decrees.get(i).struck) {
                    return decrees.get(i);
                }
            }
        }
        return null;
    }

    int right(int year) {
        year(year);
        Decree decree = ruling(year);
        return decree == null ? 0 : decree.orthography;
    }

    int borne(int year) {
        year(year);
        Decree decree = ruling(year);
        if (decree == null || decree.year == 0) {
            return -1;
        }
        int old = right(decree.year - 1);
        return old != decree.orthography && year < decree.year + grace ? old : -1;
    }

    int keep(int house, int orthography) {
        argument(in(house, 0, 7) && in(orthography, -1, 3));
        int before = kept[house];
        kept[house] = orthography;
        return before;
    }

    char judge(int word, int year, int house) {
        index(word, words);
        year(year);
        argument(in(house, 0, 7));
        lettersInBuffer();
        if (words.get(word).isName()) {
            return 'n';
        }
        if (kept[house] >= 0) {
            return spelled(word, kept[house]).equals(buffer) ? 'r' : 'w';
        }
        if (spelled(word, right(year)).equals(buffer)) {
            return 'r';
        }
        int old = borne(year);
        return old >= 0 && spelled(word, old).equals(buffer) ? 'o' : 'w';
    }

    // People, books and the corpus

    int reader() {
        state(readers.size() < 10);
        readers.add(new ArrayList<>());
        return readers.size() - 1;
    }

    int learn(int reader, int orthography) {
        index(reader, readers);
        orthography(orthography);
        state(readers.get(reader).size() < 8);
        readers.get(reader).add(orthography);
        return readers.get(reader).size();
    }

    private String written(int reader, int word) {
        List<Integer> learned = readers.get(reader);
        Word w = words.get(word);
        int last = learned.isEmpty() ? 0 : learned.get(learned.size() - 1);
        if (w.isName()) {
            return w.sounds();
        }
        if (learned.size() >= 2 && w.use() < 100) {
            return byRules(w.text(), w.origin(), last);
        }
        return spelled(word, last);
    }

    int write(int reader, int word) {
        index(reader, readers);
        index(word, words);
        buffer = written(reader, word);
        return buffer.length();
    }

    int mistakes(int reader, int year) {
        index(reader, readers);
        year(year);
        int sum = 0;
        for (int i = 0; i < words.size(); i++) {
            String text = written(reader, i);
            boolean isRight = text.equals(spelled(i, right(year)));
            boolean isBorne = borne(year) >= 0 && text.equals(spelled(i, borne(year)));
            sum += isRight || isBorne || words.get(i).isName() ? 0 : words.get(i).use();
        }
        return sum;
    }

    private List<int[]> editionsOf(int house) {
        return editions.stream().filter(edition -> edition[0] == house).toList();
    }

    private int copiesOf(int house) {
        return editionsOf(house).stream().mapToInt(edition -> edition[2]).sum();
    }

    int print(int house, int orthography, int copies) {
        argument(in(house, 0, 7) && in(orthography, 0, 3) && in(copies, 1, 9999));
        state(editionsOf(house).size() < 20);
        editions.add(new int[] {house, orthography, copies});
        return copiesOf(house);
    }

    int sell(int house, int copies) {
        argument(in(house, 0, 7) && in(copies, 1, 9999));
        supported(copiesOf(house) >= copies);
        int left = copies;
        for (int[] edition : editionsOf(house)) {
            int sold = Math.min(left, edition[2]);
            edition[2] -= sold;
            left -= sold;
        }
        editions.removeIf(edition -> edition[2] == 0);
        return editionsOf(house).size();
    }

    int pulp(int house, int year) {
        argument(in(house, 0, 7));
        year(year);
        int before = copiesOf(house);
        editions.removeIf(edition -> edition[0] == house && edition[1] != right(year)
                && edition[1] != borne(year));
        return before - copiesOf(house);
    }

    int collect(int word, int year) {
        index(word, words);
        year(year);
        lettersInBuffer();
        state(corpus.size() < 60);
        corpus.add(new Text(buffer, word, year));
        buffer = "";
        return corpus.size();
    }

    int adoption(int orthography, int year) {
        orthography(orthography);
        year(year);
        List<Text> all = corpus.stream().filter(text -> text.year() == year).toList();
        element(!all.isEmpty());
        long so = all.stream()
                .filter(text -> spelled(text.word(), orthography).equals(text.letters())).count();
        return (int) (1000 * so / all.size());
    }

    // Figures

    long checksum(int orthography) {
        orthography(orthography);
        long sum = 0;
        for (int i = 0; i < words.size(); i++) {
            for (char letter : spelled(i, orthography).toCharArray()) {
                sum = 31 * sum + letter;
            }
        }
        return sum;
    }

    private void anyWord() {
        if (words.isEmpty()) {
            throw new ArithmeticException();
        }
    }

    float soundShare(int orthography) {
        orthography(orthography);
        anyWord();
        int count = 0;
        for (int i = 0; i < words.size(); i++) {
            count += spelled(i, orthography).equals(words.get(i).sounds()) ? 1 : 0;
        }
        return (float) count / words.size();
    }

    double meanLetters(int orthography) {
        orthography(orthography);
        anyWord();
        int sum = 0;
        for (int i = 0; i < words.size(); i++) {
            sum += spelled(i, orthography).length();
        }
        return (double) sum / words.size();
    }

    boolean isSound() {
        return true;
    }
}
