import java.util.ArrayDeque;
import java.util.ArrayList;
import java.util.Deque;
import java.util.HashMap;
import java.util.List;
import java.util.Map;
import java.util.NoSuchElementException;
import java.util.Set;
import java.util.TreeSet;

/**
 * The document once more, written in another way (lists of votes, a tree of laws, all cases tried one by one), so that
 * random runs of calls can be compared with it.
 */
final class Model {
    static final Set<String> RESERVED = Set.of("person", "age", "envy", "grudge", "heir", "bar", "dead", "ties", "grows",
        "eases", "tax", "gift", "cast", "die", "day", "stay", "lapse", "old", "young", "plain", "saint", "hot", "hermit",
        "not", "and", "or");
    static final List<String> KINDS = List.of("plain", "saint", "hot", "hermit");
    static final Set<String> FACTS = Set.of("has", "jealous", "years", "known");

    /** A token: its text ("" at the end, null if it is none) and its place. */
    record Token(String text, int place) {
        boolean isWord() {
            return text != null && !text.isEmpty() && Character.isLetter(text.charAt(0));
        }

        boolean isNumber() {
            return text != null && !text.isEmpty() && Character.isDigit(text.charAt(0));
        }

        boolean isName() {
            return isWord() && !RESERVED.contains(text);
        }

        boolean is(String other) {
            return other.equals(text);
        }
    }

    static final class Fault extends RuntimeException {
        private static final long serialVersionUID = 1L;
        final int number;

        Fault(int kind, Token token) {
            number = kind + 16 * token.place();
        }
    }

    interface Law {
        int worth(Map<String, Integer> facts);
    }

    record Person(String name, int kind, int age, int envy) {
    }

    record Vote(int by, int against) {
    }

    record Line(String deed, int first, int second) {
    }

    static final class Told {
        final List<Person> people = new ArrayList<>();
        final Map<String, Integer> grudges = new HashMap<>();
        final Map<Integer, Integer> heirs = new HashMap<>();
        final Set<String> once = new TreeSet<>();
        int bar = 7;
        boolean lapse = false;
        boolean young = false;
        Law grows = facts -> 1 + (facts.get("jealous") > 4 ? 1 : 0);
        Law eases = facts -> 2;

        int find(String name) {
            for (int i = 0; i < people.size(); i++) {
                if (people.get(i).name().equals(name)) {
                    return i;
                }
            }
            return -1;
        }
    }

    static final class State {
        final Set<Integer> alive = new TreeSet<>();
        final Map<Integer, Integer> votes = new HashMap<>();
        final List<Vote> casts = new ArrayList<>();
        final Map<String, Integer> grudges = new HashMap<>();
        int day = 0;

        State copy() {
            State copy = new State();
            copy.alive.addAll(alive);
            copy.votes.putAll(votes);
            copy.casts.addAll(casts);
            copy.grudges.putAll(grudges);
            copy.day = day;
            return copy;
        }

        int grudge(int person, int other) {
            return grudges.getOrDefault(person + ">" + other, 0);
        }

        void setGrudge(int person, int other, int grudge) {
            grudges.put(person + ">" + other, grudge);
        }

        int votesOf(int person) {
            return votes.getOrDefault(person, 0);
        }

        boolean two(int person, int other) {
            return person != other && alive.contains(person) && alive.contains(other);
        }
    }

    record Heard(int grudge, boolean isCast) {
    }

    record Mark(State state, List<Line> years, List<Heard> heard) {
    }

    private final StringBuilder tape = new StringBuilder();
    private List<Token> tokens = new ArrayList<>();
    private int at = 0;
    private Told told = new Told();
    private State now = new State();
    private List<Line> years = new ArrayList<>();
    private List<Heard> heard = new ArrayList<>();
    private final Deque<State> past = new ArrayDeque<>();
    private final Mark[] marks = new Mark[4];

    // ---- the tape

    int feed(long... three) {
        for (long number : three) {
            for (int i = 7; i >= 0; i--) {
                int sign = (int) (number >> 8 * i & 0xff);
                if ((sign == 10 || 32 <= sign && sign <= 126) && tape.length() < 1000) {
                    tape.append((char) sign);
                }
            }
        }
        return tape.length();
    }

    private void tokenize() {
        String text = tape.toString();
        tape.setLength(0);
        tokens = new ArrayList<>();
        at = 0;
        java.util.regex.Matcher m = java.util.regex.Pattern.compile("[ \n]+|[a-z]+|[0-9]+|.").matcher(text);
        while (m.find()) {
            String s = m.group();
            if (!s.isBlank()) {
                boolean isNone = s.matches("[a-z]{9,}|[0-9]{5,}") || !s.matches("[a-z]+|[0-9]+|[()<=+*;-]");
                tokens.add(new Token(isNone ? null : s, m.start()));
            }
        }
        tokens.add(new Token("", text.length()));
    }

    private Token look() {
        return tokens.get(at);
    }

    private Token take() {
        return tokens.get(at++);
    }

    private void expect(String... texts) {
        for (String text : texts) {
            if (!look().is(text)) {
                throw new Fault(1, look());
            }
            take();
        }
    }

    private int number(int least, int most) {
        if (!look().isNumber()) {
            throw new Fault(1, look());
        }
        int number = Integer.parseInt(look().text());
        if (number < least || number > most) {
            throw new Fault(4, look());
        }
        take();
        return number;
    }

    private int known(Told whose) {
        if (!look().isName()) {
            throw new Fault(1, look());
        }
        int person = whose.find(look().text());
        if (person < 0) {
            throw new Fault(2, look());
        }
        return person;
    }

    int republic() {
        tokenize();
        Told draft = new Told();
        try {
            while (!look().is("")) {
                republicLine(draft);
                expect(";");
            }
        } catch (Fault fault) {
            return fault.number;
        }
        told = draft;
        now = beginning();
        years = new ArrayList<>();
        heard = new ArrayList<>();
        past.clear();
        java.util.Arrays.fill(marks, null);
        return 0;
    }

    private State beginning() {
        State state = new State();
        for (int i = 0; i < told.people.size(); i++) {
            state.alive.add(i);
            state.votes.put(i, 1);
        }
        state.grudges.putAll(told.grudges);
        return state;
    }

    private void republicLine(Told draft) {
        Token first = look();
        String word = first.isWord() ? first.text() : "";
        switch (word) {
            case "person" -> {
                if (draft.people.size() == 7) {
                    throw new Fault(5, first);
                }
                take();
                if (!look().isName()) {
                    throw new Fault(1, look());
                }
                if (draft.find(look().text()) >= 0) {
                    throw new Fault(3, look());
                }
                String name = take().text();
                if (!look().isWord() || !KINDS.contains(look().text())) {
                    throw new Fault(1, look());
                }
                int kind = KINDS.indexOf(take().text());
                expect("age");
                int age = number(0, 99);
                expect("envy");
                draft.people.add(new Person(name, kind, age, number(0, 9)));
            }
            case "grudge" -> {
                take();
                int one = known(draft);
                take();
                int two = known(draft);
                if (one == two || draft.grudges.containsKey(one + ">" + two)) {
                    throw new Fault(3, look());
                }
                take();
                draft.grudges.put(one + ">" + two, number(0, 9));
            }
            case "heir" -> {
                take();
                int one = known(draft);
                if (draft.heirs.containsKey(one)) {
                    throw new Fault(3, look());
                }
                take();
                int two = known(draft);
                if (one == two) {
                    throw new Fault(3, look());
                }
                take();
                draft.heirs.put(one, two);
            }
            case "bar", "dead", "ties", "grows", "eases" -> {
                if (!draft.once.add(word)) {
                    throw new Fault(3, first);
                }
                take();
                onceLine(draft, word);
            }
            default -> throw new Fault(1, first);
        }
    }

    private void onceLine(Told draft, String word) {
        switch (word) {
            case "bar" -> draft.bar = number(1, 9);
            case "dead" -> draft.lapse = either("stay", "lapse");
            case "ties" -> draft.young = either("old", "young");
            case "grows" -> draft.grows = law(0);
            default -> draft.eases = law(0);
        }
    }

    private boolean either(String no, String yes) {
        if (!look().is(no) && !look().is(yes)) {
            throw new Fault(1, look());
        }
        return take().is(yes);
    }

    private Law law(int depth) {
        Law left = test(depth);
        while (look().is("and") || look().is("or")) {
            boolean isAnd = take().is("and");
            Law before = left;
            Law right = test(depth);
            left = facts -> {
                boolean one = before.worth(facts) != 0;
                boolean two = right.worth(facts) != 0;
                return (isAnd ? one & two : one | two) ? 1 : 0;
            };
        }
        return left;
    }

    private Law test(int depth) {
        Law left = sum(depth);
        if (look().is("<")) {
            take();
            Law right = sum(depth);
            return facts -> left.worth(facts) < right.worth(facts) ? 1 : 0;
        }
        if (look().is("=")) {
            take();
            Law right = sum(depth);
            return facts -> left.worth(facts) == right.worth(facts) ? 1 : 0;
        }
        return left;
    }

    private Law sum(int depth) {
        Law left = product(depth);
        while (look().is("+") || look().is("-")) {
            int sign = take().is("+") ? 1 : -1;
            Law before = left;
            Law right = product(depth);
            left = facts -> before.worth(facts) + sign * right.worth(facts);
        }
        return left;
    }

    private Law product(int depth) {
        Law left = part(depth);
        while (look().is("*")) {
            take();
            Law before = left;
            Law right = part(depth);
            left = facts -> before.worth(facts) * right.worth(facts);
        }
        return left;
    }

    private Law part(int depth) {
        Token token = look();
        boolean isPart = token.isNumber() || token.is("not") || token.is("(")
            || token.isWord() && FACTS.contains(token.text());
        if (!isPart) {
            throw new Fault(1, token);
        }
        if (depth == 5) {
            throw new Fault(5, token);
        }
        take();
        if (token.is("not")) {
            Law inner = part(depth + 1);
            return facts -> inner.worth(facts) == 0 ? 1 : 0;
        }
        if (token.is("(")) {
            Law inner = law(depth + 1);
            expect(")");
            return inner;
        }
        if (token.isNumber()) {
            int number = Integer.parseInt(token.text());
            return facts -> number;
        }
        return facts -> facts.get(token.text());
    }

    int years() {
        tokenize();
        List<Line> lines = new ArrayList<>();
        try {
            while (!look().is("")) {
                lines.add(yearsLine(lines.size()));
                expect(";");
            }
        } catch (Fault fault) {
            return fault.number;
        }
        years = lines;
        return 0;
    }

    private Line yearsLine(int before) {
        Token first = look();
        if (!first.isWord() || !Set.of("tax", "gift", "cast", "die", "day").contains(first.text())) {
            throw new Fault(1, first);
        }
        if (before == 40) {
            throw new Fault(5, first);
        }
        take();
        int one = -1;
        int two = -1;
        if (!first.is("tax") && !first.is("day")) {
            one = known(told);
            take();
        }
        if (first.is("gift") || first.is("cast")) {
            two = known(told);
            if (one == two) {
                throw new Fault(3, look());
            }
            take();
        }
        return new Line(first.text(), one, two);
    }

    // ---- how it is

    private boolean isPerson(int person) {
        return person >= 0 && person < told.people.size();
    }

    private boolean isPair(int person, int other) {
        return isPerson(person) && isPerson(other) && person != other;
    }

    private int counts(State s, int person) {
        int count = 0;
        for (Vote vote : s.casts) {
            if (vote.against() == person && (s.alive.contains(vote.by()) || !told.lapse)) {
                count++;
            }
        }
        return count;
    }

    private int governor(State s, int[] more) {
        List<Integer> list = new ArrayList<>(s.alive);
        if (list.isEmpty()) {
            return -1;
        }
        int[] counts = new int[7];
        for (int p : list) {
            counts[p] = counts(s, p) + more[p];
        }
        list.sort((p, q) -> {
            if (counts[p] != counts[q]) {
                return counts[p] - counts[q];
            }
            int age = told.people.get(p).age() - told.people.get(q).age();
            if (age != 0) {
                return told.young ? age : -age;
            }
            return p - q;
        });
        return list.get(0);
    }

    private int governor(State s) {
        return governor(s, new int[7]);
    }

    private Map<String, Integer> facts(State s, int person, int other) {
        return Map.of("has", s.grudge(person, other), "jealous", told.people.get(person).envy(),
            "years", told.people.get(person).age(), "known", counts(s, other));
    }

    private static int within(int worth) {
        return worth < 0 ? 0 : worth > 9 ? 9 : worth;
    }

    private int tax(State s) {
        int g = governor(s);
        if (g < 0 || told.people.get(g).kind() == 3) {
            return -1;
        }
        int grew = 0;
        for (int p : s.alive) {
            if (p != g) {
                int then = within(s.grudge(p, g) + within(told.grows.worth(facts(s, p, g))));
                if (then > s.grudge(p, g)) {
                    grew++;
                }
                s.setGrudge(p, g, then);
            }
        }
        return grew;
    }

    private int gift(State s, int person, int other) {
        if (!s.two(person, other)) {
            return -1;
        }
        int then = within(s.grudge(other, person) - within(told.eases.worth(facts(s, other, person))));
        s.setGrudge(other, person, then);
        return then;
    }

    private int cast(State s, int person, int other) {
        if (!s.two(person, other) || s.votesOf(person) == 0) {
            return -1;
        }
        s.votes.merge(person, -1, Integer::sum);
        s.casts.add(new Vote(person, other));
        return counts(s, other);
    }

    private int die(State s, int person) {
        if (!s.alive.remove(person)) {
            return -1;
        }
        int left = s.votes.remove(person);
        Integer heir = told.heirs.get(person);
        if (heir == null || !s.alive.contains(heir)) {
            return 0;
        }
        s.votes.merge(heir, left, Integer::sum);
        return left;
    }

    private int least(int person, int bar) {
        return told.people.get(person).kind() == 2 ? Math.max(bar - 2, 1) : bar;
    }

    private int worst(State s, int person) {
        int worst = -1;
        for (int other : s.alive) {
            if (other != person && (worst < 0 || s.grudge(person, other) > s.grudge(person, worst))) {
                worst = other;
            }
        }
        return worst;
    }

    private int next(State s, int person, int bar) {
        if (!s.alive.contains(person) || s.votesOf(person) == 0 || told.people.get(person).kind() == 1) {
            return -1;
        }
        int worst = worst(s, person);
        return worst >= 0 && s.grudge(person, worst) >= least(person, bar) ? worst : -1;
    }

    private int day(State s, int bar) {
        int cast = 0;
        for (int person = 0; person < told.people.size(); person++) {
            int other = next(s, person, bar);
            if (other >= 0) {
                cast(s, person, other);
                s.setGrudge(person, other, 0);
                cast++;
            }
        }
        s.day++;
        return cast;
    }

    private void keep() {
        past.push(now.copy());
        if (past.size() > 16) {
            past.removeLast();
        }
    }

    // ---- the face

    String[] names() {
        return told.people.stream().map(Person::name).toArray(String[]::new);
    }

    int person(int person, int what) {
        if (!isPerson(person)) {
            return -2;
        }
        Person p = told.people.get(person);
        return switch (what) {
            case 0 -> p.kind();
            case 1 -> p.age();
            case 2 -> p.envy();
            case 3 -> now.votesOf(person);
            case 4 -> counts(now, person);
            case 5 -> (int) now.casts.stream().filter(v -> v.by() == person).count();
            case 6 -> told.heirs.getOrDefault(person, -1);
            case 7 -> now.alive.contains(person) ? 1 : 0;
            default -> -2;
        };
    }

    int grudge(int person, int other) {
        return isPair(person, other) ? now.grudge(person, other) : -1;
    }

    int against(int person, int other) {
        return isPair(person, other) ? (int) now.casts.stream().filter(new Vote(person, other)::equals).count() : -1;
    }

    int governs() {
        return governor(now);
    }

    /** By the name of a deed, as the years tell it. */
    int deed(String deed, int person, int other) {
        State then = now.copy();
        int answer = perform(then, new Line(deed, person, other));
        if (answer >= 0) {
            keep();
            now = then;
        }
        return answer;
    }

    private int perform(State s, Line line) {
        return switch (line.deed()) {
            case "tax" -> tax(s);
            case "gift" -> gift(s, line.first(), line.second());
            case "cast" -> cast(s, line.first(), line.second());
            case "die" -> die(s, line.first());
            default -> day(s, told.bar);
        };
    }

    boolean undo() {
        if (past.isEmpty()) {
            return false;
        }
        now = past.pop();
        return true;
    }

    int judged(int what) {
        if (what < 0 || what > 2) {
            return -2;
        }
        int impossible = -1;
        int turn = -1;
        State s = beginning();
        for (int i = 0; i < years.size(); i++) {
            State then = s.copy();
            if (perform(then, years.get(i)) < 0) {
                impossible = impossible < 0 ? i : impossible;
                continue;
            }
            if (governor(then) != governor(s)) {
                turn = turn < 0 ? i : turn;
            }
            s = then;
        }
        return new int[] {impossible, turn, governor(s)}[what];
    }

    int next(int person) {
        return next(now, person, told.bar);
    }

    int bring(int person) {
        if (!now.alive.contains(person)) {
            return -1;
        }
        List<Integer> voters = new ArrayList<>();
        for (int p : now.alive) {
            for (int i = 0; p != person && i < now.votesOf(p); i++) {
                voters.add(p);
            }
        }
        int best = fewest(person, voters, 0, 0, new int[7], 99);
        return best == 99 ? -1 : best;
    }

    private int fewest(int person, List<Integer> voters, int from, int used, int[] more, int best) {
        if (used >= best) {
            return best;
        }
        if (governor(now, more) == person) {
            return used;
        }
        int least = best;
        for (int i = from; i < voters.size(); i++) {
            for (int target : now.alive) {
                if (target != voters.get(i) && target != person) {
                    more[target]++;
                    least = fewest(person, voters, i + 1, used + 1, more, least);
                    more[target]--;
                }
            }
        }
        return least;
    }

    int bears(int person) {
        if (governor(now) != person || person < 0 || now.alive.size() < 2) {
            return -1;
        }
        int[] more = new int[7];
        while (governor(now, more) == person) {
            more[person]++;
        }
        return more[person] - 1;
    }

    int falls() {
        State s = now.copy();
        for (int day = 1; governor(now) >= 0 && day <= 40; day++) {
            tax(s);
            day(s, told.bar);
            if (governor(s) != governor(now)) {
                return day;
            }
        }
        return -1;
    }

    int quiets() {
        State s = now.copy();
        int gifts = 0;
        for (int to : s.alive) {
            for (int from : s.alive) {
                if (from == to || s.votesOf(to) == 0 || told.people.get(to).kind() == 1) {
                    continue;
                }
                while (s.grudge(to, from) >= least(to, told.bar)) {
                    int before = s.grudge(to, from);
                    if (gift(s, from, to) == before) {
                        return -1;
                    }
                    gifts++;
                }
            }
        }
        return gifts;
    }

    int should(int person) {
        for (int other : now.alive) {
            State s = now.copy();
            if (cast(s, person, other) >= 0 && governor(s) == person) {
                return other;
            }
        }
        return -1;
    }

    boolean hear(int grudge, boolean isCast) {
        if (grudge < 0 || grudge > 9 || heard.size() == 8) {
            return false;
        }
        heard = new ArrayList<>(heard);
        heard.add(new Heard(grudge, isCast));
        return true;
    }

    private List<Integer> barsLeft() {
        List<Integer> left = new ArrayList<>();
        for (int bar = 1; bar <= 9; bar++) {
            int tried = bar;
            if (heard.stream().allMatch(h -> h.grudge() >= tried == h.isCast())) {
                left.add(bar);
            }
        }
        return left;
    }

    int bars(int what) {
        List<Integer> left = barsLeft();
        if (what == 0) {
            return left.size();
        }
        if (left.isEmpty() || what != 1 && what != 2) {
            return -1;
        }
        return left.get(what == 1 ? 0 : left.size() - 1);
    }

    int ask() {
        List<Integer> left = barsLeft();
        int best = -1;
        int least = left.size();
        for (int grudge = 0; grudge < 10; grudge++) {
            int tried = grudge;
            int casts = (int) left.stream().filter(bar -> tried >= bar).count();
            int greater = Math.max(casts, left.size() - casts);
            if (greater < least) {
                least = greater;
                best = grudge;
            }
        }
        return best;
    }

    int sets(int x, int y, int what) {
        if (what < 0 || what > 2 || !now.two(x, y)) {
            return -1;
        }
        int all = -1;
        int some = 0;
        int number = 0;
        for (int set = 0; set < 128; set++) {
            State s = now.copy();
            boolean isSet = (set >> x & 1) == 0 && (set >> y & 1) == 0;
            for (int p = 0; p < 7; p++) {
                isSet &= (set >> p & 1) == 0 || cast(s, p, x) >= 0;
            }
            if (isSet && governor(s) == y) {
                number++;
                all &= set;
                some |= set;
            }
        }
        if (what == 0) {
            return number;
        }
        return number == 0 ? -1 : what == 1 ? all : some;
    }

    int ease() {
        int pairs = 0;
        for (int p : now.alive) {
            int q = worst(now, p);
            if (q > p && worst(now, q) == p && now.votesOf(p) > 0 && now.votesOf(q) > 0
                && now.grudge(p, q) > 0 && now.grudge(q, p) > 0) {
                pairs++;
            }
        }
        return pairs;
    }

    static int rests(int keeps, int casts, int loses, int what) {
        if (Math.min(keeps, Math.min(casts, loses)) < 0 || Math.max(keeps, Math.max(casts, loses)) > 9 || what < -1) {
            throw new NoSuchElementException();
        }
        int[][] first = {{keeps, -loses}, {casts, -loses}};
        List<Integer> found = new ArrayList<>();
        for (int a = 0; a < 2; a++) {
            for (int b = 0; b < 2; b++) {
                if (first[1 - a][b] <= first[a][b] && first[1 - b][a] <= first[b][a]) {
                    found.add(2 * a + b);
                }
            }
        }
        if (what >= found.size()) {
            throw new NoSuchElementException();
        }
        return what < 0 ? found.size() : found.get(what);
    }

    int rule(int days, int bar) {
        if (days < 1 || days > 30 || bar < 1 || bar > 9) {
            return -1;
        }
        State s = now.copy();
        int votes = 0;
        for (int i = 0; i < days; i++) {
            tax(s);
            votes += day(s, bar);
        }
        return votes;
    }

    private long g;

    private int draw(int m) {
        g = (g * 1103515245L + 12345L) % (1L << 31);
        return (int) (g / 65536 % m);
    }

    int ages(int seed, int days, int what) {
        if (seed < 0 || seed > 9999 || days < 1 || days > 99 || what < 0 || what > 2) {
            return -1;
        }
        g = seed;
        State s = now.copy();
        int votes = 0;
        int turns = 0;
        for (int i = 0; i < days && !told.people.isEmpty(); i++) {
            int before = governor(s);
            int one = draw(told.people.size());
            gift(s, one, draw(told.people.size()));
            if (draw(2) == 0) {
                tax(s);
            }
            if (draw(20) == 0) {
                die(s, one);
            }
            votes += day(s, told.bar);
            turns += governor(s) == before ? 0 : 1;
        }
        return new int[] {votes, turns, bits(s)}[what];
    }

    private static int bits(State s) {
        int bits = 0;
        for (int p : s.alive) {
            bits += 1 << p;
        }
        return bits;
    }

    boolean mark(int mark, boolean back) {
        if (mark < 0 || mark > 3 || back && marks[mark] == null) {
            return false;
        }
        if (back) {
            now = marks[mark].state().copy();
            years = marks[mark].years();
            heard = marks[mark].heard();
            past.clear();
        } else {
            marks[mark] = new Mark(now.copy(), years, heard);
        }
        return true;
    }

    int count(int what) {
        return switch (what) {
            case 0 -> told.people.size();
            case 1 -> told.bar;
            case 2 -> told.lapse ? 1 : 0;
            case 3 -> told.young ? 1 : 0;
            case 4 -> now.day;
            case 5 -> bits(now);
            case 6 -> now.alive.stream().mapToInt(now::votesOf).sum();
            case 7 -> now.alive.stream().mapToInt(p -> now.alive.stream().mapToInt(q -> now.grudge(p, q)).sum()).sum();
            case 8 -> now.casts.size();
            case 9 -> years.size();
            case 10 -> heard.size();
            case 11 -> past.size();
            case 12 -> tape.length();
            default -> -1;
        };
    }
}
