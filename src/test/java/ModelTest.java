import java.util.ArrayList;
import java.util.List;
import java.util.NoSuchElementException;
import java.util.Random;

/** Random runs of calls, on good and bad tapes, answered as the model answers them: promises 1 to 31. */
public final class ModelTest {
    private static final int RUNS = 4000;
    // The document answers for 512 calls of an object.
    private static final int MOST_CALLS = 512;
    private static final String[] NAMES = {"a", "ann", "bob", "cy", "has", "known", "years", "jealous", "abcdefgh", "zzzzzzzz",
        "persons", "ag"};
    private static final String[] STRAY = {"person", "age", "envy", "grudge", "heir", "bar", "dead", "ties", "grows", "eases",
        "tax", "gift", "cast", "die", "day", "stay", "lapse", "old", "young", "plain", "saint", "hot", "hermit", "not", "and",
        "or", "has", "jealous", "years", "known", "ann", "bob", "(", ")", "<", "=", "+", "-", "*", ";", "0", "1", "9", "10",
        "99", "100", "9999", "10000", "abcdefghi", "?", "A", "~", "not not not not not 1", "((((1))))", "(((((1)))))"};

    private final Random random;
    private final VoteAgainst x = new VoteAgainst();
    private final Model model = new Model();
    private final String run;
    private int people = 0;
    private int calls = 0;

    private ModelTest(int seed) {
        random = new Random(seed);
        run = "run " + seed + ": ";
    }

    public static void main(String[] args) {
        for (int seed = 0; seed < RUNS; seed++) {
            new ModelTest(seed).runCalls();
        }
        Check.end();
    }

    private void runCalls() {
        for (int i = 0; i < 1 + random.nextInt(3); i++) {
            tellRepublic();
            int changes = 20 + random.nextInt(60);
            for (int change = 0; change < changes; change++) {
                call();
            }
            look();
        }
    }

    private void due(String call, long got, long want) {
        calls++;
        if (calls <= MOST_CALLS) {
            Check.due(run + call, got, want);
        }
    }

    private int below(int bound) {
        return random.nextInt(bound);
    }

    private boolean oneOf(int number) {
        return random.nextInt(number) == 0;
    }

    private int somebody() {
        return oneOf(20) ? below(12) - 3 : below(Math.max(1, people));
    }

    private void feed(String text) {
        for (int from = 0; from < text.length(); from += 24) {
            long[] three = new long[3];
            for (int i = 0; i < 24; i++) {
                three[i / 8] = three[i / 8] << 8 | (from + i < text.length() ? text.charAt(from + i) : 0);
            }
            due("feed", x.feed(three[0], three[1], three[2]), model.feed(three));
        }
    }

    private String joined(List<String> tokens) {
        if (oneOf(3)) {
            int tries = 1 + below(2);
            for (int i = 0; i < tries && !tokens.isEmpty(); i++) {
                spoil(tokens);
            }
        }
        StringBuilder text = new StringBuilder();
        for (String token : tokens) {
            text.append(token);
            if (Character.isLetterOrDigit(token.charAt(token.length() - 1)) || oneOf(9)) {
                text.append(oneOf(5) ? "\n" : " ");
            }
        }
        return oneOf(40) ? text + "          ".repeat(below(90)) + "bar 3;" : text.toString();
    }

    private void spoil(List<String> tokens) {
        int at = below(tokens.size());
        switch (below(4)) {
            case 0 -> tokens.remove(at);
            case 1 -> tokens.set(at, STRAY[below(STRAY.length)]);
            case 2 -> tokens.add(at, STRAY[below(STRAY.length)]);
            default -> tokens.subList(at, tokens.size()).clear();
        }
    }

    private static void add(List<String> tokens, Object... more) {
        for (Object token : more) {
            tokens.add(String.valueOf(token));
        }
    }

    private void tellRepublic() {
        List<String> tokens = new ArrayList<>();
        int wanted = oneOf(20) ? 8 : below(8);
        int told = Math.min(7, wanted);
        List<String> names = new ArrayList<>(List.of(NAMES));
        java.util.Collections.shuffle(names, random);
        int ages = oneOf(2) ? 3 : 100;
        for (int i = 0; i < wanted; i++) {
            String name = oneOf(60) && i > 0 ? names.get(i - 1) : names.get(i);
            add(tokens, "person", name, Model.KINDS.get(oneOf(2) ? 0 : below(4)), "age", below(ages), "envy", below(10), ";");
        }
        List<List<String>> lines = new ArrayList<>();
        for (int p = 0; p < told; p++) {
            for (int q = 0; q < told; q++) {
                if (p != q && oneOf(2)) {
                    lines.add(List.of("grudge", names.get(p), names.get(q), "" + below(10), ";"));
                }
            }
            if (told > 1 && oneOf(2)) {
                lines.add(List.of("heir", names.get(p), names.get((p + 1 + below(told - 1)) % told), ";"));
            }
        }
        addOnceLines(lines);
        java.util.Collections.shuffle(lines, random);
        lines.forEach(tokens::addAll);
        feed(joined(tokens));
        due("republic", x.republic(), model.republic());
        people = model.count(0);
    }

    private void addOnceLines(List<List<String>> lines) {
        if (oneOf(2)) {
            lines.add(List.of("bar", "" + (1 + below(9)), ";"));
        }
        if (oneOf(2)) {
            lines.add(List.of("dead", oneOf(2) ? "stay" : "lapse", ";"));
        }
        if (oneOf(2)) {
            lines.add(List.of("ties", oneOf(2) ? "old" : "young", ";"));
        }
        for (String word : new String[] {"grows", "eases"}) {
            if (oneOf(2)) {
                List<String> law = new ArrayList<>();
                law.add(word);
                addLaw(law, 0);
                law.add(";");
                lines.add(law);
            }
        }
        if (oneOf(60) && !lines.isEmpty()) {
            lines.add(lines.get(below(lines.size())));
        }
    }

    private void addLaw(List<String> law, int depth) {
        for (int i = 0; i == 0 || oneOf(3); i++) {
            if (i > 0) {
                law.add(oneOf(2) ? "and" : "or");
            }
            addSum(law, depth);
            if (oneOf(3)) {
                law.add(oneOf(2) ? "<" : "=");
                addSum(law, depth);
            }
        }
    }

    private void addSum(List<String> law, int depth) {
        for (int i = 0; i == 0 || oneOf(3); i++) {
            if (i > 0) {
                law.add(oneOf(2) ? "+" : "-");
            }
            addPart(law, depth);
            while (oneOf(5)) {
                law.add("*");
                addPart(law, depth);
            }
        }
    }

    private void addPart(List<String> law, int depth) {
        int deepest = oneOf(50) ? 5 : 4;
        if (depth < deepest && oneOf(4)) {
            law.add("(");
            addLaw(law, depth + 1);
            law.add(")");
        } else if (depth < deepest && oneOf(5)) {
            law.add("not");
            addPart(law, depth + 1);
        } else if (oneOf(2)) {
            law.add("" + (oneOf(10) ? below(10000) : below(6)));
        } else {
            law.add(new String[] {"has", "jealous", "years", "known"}[below(4)]);
        }
    }

    private void tellYears() {
        List<String> tokens = new ArrayList<>();
        int lines = oneOf(10) ? 39 + below(3) : below(15);
        for (int i = 0; i < lines; i++) {
            String one = NAMES[below(NAMES.length)];
            String two = NAMES[below(NAMES.length)];
            switch (below(people > 6 ? 9 : 5)) {
                case 0 -> add(tokens, "tax", ";");
                case 5 -> add(tokens, "gift", one, two, ";");
                case 6, 7 -> add(tokens, "cast", one, two, ";");
                case 8 -> add(tokens, "die", one, ";");
                default -> add(tokens, "day", ";");
            }
        }
        feed(joined(tokens));
        due("years", x.years(), model.years());
    }

    /** Years whose names are all known, so that more of them can be. */
    private void tellGoodYears(String[] names) {
        List<String> tokens = new ArrayList<>();
        int lines = 1 + below(20);
        for (int i = 0; i < lines; i++) {
            int p = below(names.length);
            int q = (p + 1 + below(names.length - 1)) % names.length;
            switch (below(6)) {
                case 0 -> add(tokens, "tax", ";");
                case 1 -> add(tokens, "gift", names[p], names[q], ";");
                case 2, 3 -> add(tokens, "cast", names[p], names[q], ";");
                case 4 -> add(tokens, "die", names[p], ";");
                default -> add(tokens, "day", ";");
            }
        }
        feed(String.join(" ", tokens));
        due("years", x.years(), model.years());
        due("judged(0)", x.judged(0), model.judged(0));
        due("judged(1)", x.judged(1), model.judged(1));
        due("judged(2)", x.judged(2), model.judged(2));
    }

    private void call() {
        int p = somebody();
        int q = somebody();
        int what = oneOf(10) ? below(9) - 4 : below(3);
        switch (below(26)) {
            case 0, 1 -> due("tax", x.tax(), model.deed("tax", 0, 0));
            case 2, 3 -> due("gift " + p + " " + q, x.gift(p, q), model.deed("gift", p, q));
            case 4, 5 -> due("cast " + p + " " + q, x.cast(p, q), model.deed("cast", p, q));
            case 6 -> due("day", x.day(), model.deed("day", 0, 0));
            case 7 -> {
                if (oneOf(3)) {
                    due("die " + p, x.die(p), model.deed("die", p, 0));
                }
            }
            case 8 -> due("undo", x.undo() ? 1 : 0, model.undo() ? 1 : 0);
            case 9 -> due("judged " + what, x.judged(what), model.judged(what));
            case 10 -> due("next " + p, x.next(p), model.next(p));
            case 11 -> due("bring " + p, x.bring(p), model.bring(p));
            case 12 -> due("bears " + p, x.bears(p), model.bears(p));
            case 13 -> due("falls", x.falls(), model.falls());
            case 14 -> due("quiets", x.quiets(), model.quiets());
            case 15 -> due("should " + p, x.should(p), model.should(p));
            case 16 -> {
                int grudge = below(12) - 1;
                boolean isCast = random.nextInt(10) < grudge;
                due("hear " + grudge, x.hear(grudge, isCast) ? 1 : 0, model.hear(grudge, isCast) ? 1 : 0);
                due("bars " + what, x.bars(what), model.bars(what));
                due("ask", x.ask(), model.ask());
            }
            case 17 -> due("sets " + p + " " + q + " " + what, x.sets(p, q, what), model.sets(p, q, what));
            case 18 -> due("ease", x.ease(), model.ease());
            case 19 -> compareRests();
            case 20 -> {
                int days = below(35) - 1;
                int bar = below(11);
                due("rule " + days + " " + bar, x.rule(days, bar), model.rule(days, bar));
            }
            case 21 -> {
                int seed = below(10100) - 50;
                int days = below(105) - 2;
                due("ages " + seed + " " + days + " " + what, x.ages(seed, days, what), model.ages(seed, days, what));
            }
            case 22 -> {
                int mark = below(6) - 1;
                boolean back = oneOf(2);
                due("mark " + mark, x.mark(mark, back) ? 1 : 0, model.mark(mark, back) ? 1 : 0);
            }
            case 23 -> tellYears();
            case 24 -> {
                if (people > 1) {
                    tellGoodYears(model.names());
                }
            }
            default -> look();
        }
    }

    private void compareRests() {
        int keeps = below(12) - 1;
        int casts = oneOf(3) ? keeps : below(12) - 1;
        int loses = below(12) - 1;
        int what = below(7) - 2;
        due("rests " + keeps + " " + casts + " " + loses + " " + what,
            rests(true, keeps, casts, loses, what), rests(false, keeps, casts, loses, what));
    }

    private int rests(boolean own, int keeps, int casts, int loses, int what) {
        try {
            return own ? x.rests(keeps, casts, loses, what) : Model.rests(keeps, casts, loses, what);
        } catch (NoSuchElementException e) {
            return -99;
        }
    }

    /** Of what can be seen without a change. */
    private void look() {
        for (int i = 0; i < 10; i++) {
            int what = below(15) - 1;
            due("count " + what, x.count(what), model.count(what));
            int p = somebody();
            int q = somebody();
            int of = below(10) - 1;
            due("person " + p + " " + of, x.person(p, of), model.person(p, of));
            due("grudge " + p + " " + q, x.grudge(p, q), model.grudge(p, q));
            due("against " + p + " " + q, x.against(p, q), model.against(p, q));
        }
        due("governs", x.governs(), model.governs());
    }
}
