import java.util.Arrays;
import java.util.NoSuchElementException;

/** A republic in which each has, once, a vote against somebody, and he with the fewest governs. */
public final class VoteAgainst {
    public static final int NONE = -1;

    private static final int OTHERS = -2;
    private static final int MOST_PEOPLE = 7;
    private static final int PAIRS = 49;
    private static final int MOST_GRUDGE = 9;
    private static final int MOST_BAR = 9;
    private static final int ALL_BARS = 1022;
    private static final int MOST_HEARD = 8;
    private static final int MOST_DAYS_TO_FALL = 40;
    private static final int MOST_DAYS_OF_RULE = 30;
    private static final int MOST_DAYS_OF_AGES = 99;
    private static final int MOST_SEED = 9999;
    private static final int MARKS = 4;

    private final Tape tape;
    private final Republic told;
    private final RepublicReader republicReader;
    private final YearsReader yearsReader;
    private final Standing start;
    private final Standing tried;
    private final Moment now;
    private final Moment[] marks;
    private final Past past;
    private long drawn;

    public VoteAgainst() {
        tape = new Tape();
        told = new Republic();
        republicReader = new RepublicReader(tape, new Republic());
        yearsReader = new YearsReader(tape, told);
        start = new Standing(told);
        tried = new Standing(told);
        now = new Moment(told);
        marks = new Moment[MARKS];
        for (int i = 0; i < MARKS; i++) {
            marks[i] = new Moment(told);
        }
        past = new Past(told);
    }

    public int feed(long a, long b, long c) {
        tape.append(a);
        tape.append(b);
        tape.append(c);
        return tape.length;
    }

    public int republic() {
        int fault = republicReader.readTape();
        if (fault == 0) {
            told.become(republicReader.republic);
            start.begin();
            now.begin();
            past.forget();
            for (int i = 0; i < MARKS; i++) {
                marks[i].isLaid = false;
            }
        }
        return fault;
    }

    public int years() {
        int fault = yearsReader.readTape();
        if (fault == 0) {
            now.years.become(yearsReader.years);
        }
        return fault;
    }

    public int person(int person, int what) {
        if (!told.has(person)) {
            return OTHERS;
        }
        switch (what) {
            case 0: return told.kinds[person];
            case 1: return told.ages[person];
            case 2: return told.envies[person];
            case 3: return now.standing.votes[person];
            case 4: return now.standing.countAgainst(person);
            case 5: return now.standing.castBy(person);
            case 6: return told.heirs[person];
            case 7: return now.standing.isAlive(person) ? 1 : 0;
            default: return OTHERS;
        }
    }

    public int grudge(int person, int other) {
        if (!told.hasPair(person, other)) {
            return NONE;
        }
        return now.standing.grudges[person * MOST_PEOPLE + other];
    }

    public int against(int person, int other) {
        if (!told.hasPair(person, other)) {
            return NONE;
        }
        return now.standing.casts[person * MOST_PEOPLE + other];
    }

    public int governs() {
        return now.standing.governor();
    }

    public int tax() {
        if (!now.standing.canLevy()) {
            return NONE;
        }
        past.keep(now.standing);
        return now.standing.levy();
    }

    public int gift(int person, int other) {
        if (!now.standing.areTwoAlive(person, other)) {
            return NONE;
        }
        past.keep(now.standing);
        return now.standing.give(person, other);
    }

    public int cast(int person, int other) {
        if (!now.standing.canVote(person, other)) {
            return NONE;
        }
        past.keep(now.standing);
        now.standing.vote(person, other);
        return now.standing.countAgainst(other);
    }

    public int die(int person) {
        if (!now.standing.isAlive(person)) {
            return NONE;
        }
        past.keep(now.standing);
        return now.standing.bury(person);
    }

    public int day() {
        past.keep(now.standing);
        return now.standing.passDay(told.bar);
    }

    public boolean undo() {
        return past.bringBack(now.standing);
    }

    public int judged(int what) {
        if (what < 0 || what > 2) {
            return OTHERS;
        }
        int impossible = NONE;
        int turning = NONE;
        tried.become(start);
        int governor = tried.governor();
        for (int i = 0; i < now.years.count; i++) {
            boolean isDone = tried.perform(now.years.lines[i]);
            int then = tried.governor();
            if (!isDone && impossible == NONE) {
                impossible = i;
            }
            if (then != governor && turning == NONE) {
                turning = i;
            }
            governor = then;
        }
        if (what == 2) {
            return governor;
        }
        return what == 0 ? impossible : turning;
    }

    public int next(int person) {
        return now.standing.target(person, told.bar);
    }

    public int bring(int person) {
        if (!now.standing.isAlive(person)) {
            return NONE;
        }
        return now.standing.votesToBring(person);
    }

    public int bears(int person) {
        if (!told.has(person) || now.standing.governor() != person) {
            return NONE;
        }
        return now.standing.votesToBear(person);
    }

    public int falls() {
        int governor = now.standing.governor();
        if (governor == NONE) {
            return NONE;
        }
        tried.become(now.standing);
        for (int day = 1; day <= MOST_DAYS_TO_FALL; day++) {
            tried.passTaxedDay(told.bar);
            if (tried.governor() != governor) {
                return day;
            }
        }
        return NONE;
    }

    public int quiets() {
        tried.become(now.standing);
        int gifts = 0;
        for (int person = 0; person < told.people; person++) {
            for (int other = 0; other < told.people; other++) {
                int more = tried.giftsToQuiet(person, other);
                if (more == NONE) {
                    return NONE;
                }
                gifts += more;
            }
        }
        return gifts;
    }

    public int should(int person) {
        for (int other = 0; other < told.people; other++) {
            if (now.standing.canVote(person, other)) {
                tried.become(now.standing);
                tried.vote(person, other);
                if (tried.governor() == person) {
                    return other;
                }
            }
        }
        return NONE;
    }

    public boolean hear(int grudge, boolean isCast) {
        if (!isDigit(grudge) || now.heard >= MOST_HEARD) {
            return false;
        }
        int casting = barsUpTo(grudge);
        now.barsLeft &= isCast ? casting : ~casting;
        now.heard++;
        return true;
    }

    public int bars(int what) {
        int left = now.barsLeft;
        if (what == 0) {
            return Integer.bitCount(left);
        }
        if (what < 0 || what > 2 || left == 0) {
            return NONE;
        }
        return what == 1
            ? Integer.numberOfTrailingZeros(left)
            : 31 - Integer.numberOfLeadingZeros(left);
    }

    public int ask() {
        int all = Integer.bitCount(now.barsLeft);
        int best = NONE;
        int least = all;
        for (int grudge = 0; grudge <= MOST_GRUDGE; grudge++) {
            int casting = Integer.bitCount(now.barsLeft & barsUpTo(grudge));
            int greater = Math.max(casting, all - casting);
            if (greater < least) {
                least = greater;
                best = grudge;
            }
        }
        return best;
    }

    public int sets(int x, int y, int what) {
        if (what < 0 || what > 2 || !now.standing.areTwoAlive(x, y)) {
            return NONE;
        }
        int voters = now.standing.voters() & ~(1 << x) & ~(1 << y);
        int number = 0;
        int inAll = voters;
        int inSome = 0;
        for (int set = 0; set < 1 << MOST_PEOPLE; set++) {
            if ((set & ~voters) == 0 && governsBy(set, x, y)) {
                number++;
                inAll &= set;
                inSome |= set;
            }
        }
        if (what == 0) {
            return number;
        }
        if (number == 0) {
            return NONE;
        }
        return what == 1 ? inAll : inSome;
    }

    public int ease() {
        int pairs = 0;
        for (int person = 0; person < told.people; person++) {
            for (int other = person + 1; other < told.people; other++) {
                if (now.standing.isThreat(person, other) && now.standing.isThreat(other, person)) {
                    pairs++;
                }
            }
        }
        return pairs;
    }

    public int rests(int keeps, int casts, int loses, int what) throws NoSuchElementException {
        if (!isDigit(keeps) || !isDigit(casts) || !isDigit(loses) || what < NONE) {
            throw new NoSuchElementException();
        }
        int number = 0;
        for (int choices = 0; choices < 4; choices++) {
            if (isAtRest(keeps, casts, loses, choices)) {
                if (number == what) {
                    return choices;
                }
                number++;
            }
        }
        if (what != NONE) {
            throw new NoSuchElementException();
        }
        return number;
    }

    public int rule(int days, int bar) {
        if (days < 1 || days > MOST_DAYS_OF_RULE || bar < 1 || bar > MOST_BAR) {
            return NONE;
        }
        tried.become(now.standing);
        int votes = 0;
        for (int day = 0; day < days; day++) {
            votes += tried.passTaxedDay(bar);
        }
        return votes;
    }

    public int ages(int seed, int days, int what) {
        if (seed < 0 || seed > MOST_SEED || days < 1 || days > MOST_DAYS_OF_AGES || what < 0 || what > 2) {
            return NONE;
        }
        tried.become(now.standing);
        drawn = seed;
        int votes = 0;
        int turns = 0;
        for (int day = 0; day < days; day++) {
            int governor = tried.governor();
            votes += passDrawnDay();
            if (tried.governor() != governor) {
                turns++;
            }
        }
        if (what == 2) {
            return tried.alive;
        }
        return what == 0 ? votes : turns;
    }

    public boolean mark(int mark, boolean back) {
        if (mark < 0 || mark >= MARKS) {
            return false;
        }
        if (!back) {
            marks[mark].become(now);
            marks[mark].isLaid = true;
            return true;
        }
        if (!marks[mark].isLaid) {
            return false;
        }
        now.become(marks[mark]);
        past.forget();
        return true;
    }

    public int count(int what) {
        switch (what) {
            case 0: return told.people;
            case 1: return told.bar;
            case 2: return told.lapse ? 1 : 0;
            case 3: return told.young ? 1 : 0;
            case 4: return now.standing.day;
            case 5: return now.standing.alive;
            case 6: return now.standing.votesLeft();
            case 7: return now.standing.allGrudges();
            case 8: return now.standing.allCasts();
            case 9: return now.years.count;
            case 10: return now.heard;
            case 11: return past.size;
            case 12: return tape.length;
            default: return NONE;
        }
    }

    private static boolean isDigit(int number) {
        return number >= 0 && number <= 9;
    }

    /** The bars, as bits, by which a plain one of this grudge casts. */
    private static int barsUpTo(int grudge) {
        return ALL_BARS & ((2 << grudge) - 1);
    }

    private boolean governsBy(int set, int x, int y) {
        tried.become(now.standing);
        for (int person = 0; person < told.people; person++) {
            if ((set >> person & 1) == 1) {
                tried.vote(person, x);
            }
        }
        return tried.governor() == y;
    }

    /** Whether, of two choices told as 2 * the first one's + the other one's, neither would be better off by his other one. */
    private static boolean isAtRest(int keeps, int casts, int loses, int choices) {
        int first = choices / 2;
        int other = choices % 2;
        return gain(keeps, casts, loses, first, other) >= gain(keeps, casts, loses, 1 - first, other)
            && gain(keeps, casts, loses, other, first) >= gain(keeps, casts, loses, 1 - other, first);
    }

    private static int gain(int keeps, int casts, int loses, int own, int others) {
        if (others == 1) {
            return -loses;
        }
        return own == 1 ? casts : keeps;
    }

    private int passDrawnDay() {
        if (told.people > 0) {
            int giver = drawBelow(told.people);
            int taker = drawBelow(told.people);
            if (tried.areTwoAlive(giver, taker)) {
                tried.give(giver, taker);
            }
            if (drawBelow(2) == 0 && tried.canLevy()) {
                tried.levy();
            }
            if (drawBelow(20) == 0 && tried.isAlive(giver)) {
                tried.bury(giver);
            }
        }
        return tried.passDay(told.bar);
    }

    private int drawBelow(int bound) {
        drawn = (drawn * 1103515245L + 12345L) % 2147483648L;
        return bound > 0 ? (int) (drawn / 65536 % bound) : 0;
    }

    /** The signs that were fed, and the token of them that is looked at. */
    private static final class Tape {
        static final int ROOM = 1000;

        static final int END = 0;
        static final int WRONG = 1;
        static final int NAME = 2;
        static final int NUMBER = 3;
        // These stand as in SIGNS.
        static final int OPEN = 4;
        static final int CLOSE = 5;
        static final int LESS = 6;
        static final int SAME = 7;
        static final int PLUS = 8;
        static final int MINUS = 9;
        static final int TIMES = 10;
        static final int STOP = 11;
        // These stand as in WORDS; from HAS on they may be names, too.
        static final int PERSON = 12;
        static final int AGE = 13;
        static final int ENVY = 14;
        static final int GRUDGE = 15;
        static final int HEIR = 16;
        static final int BAR = 17;
        static final int DEAD = 18;
        static final int TIES = 19;
        static final int GROWS = 20;
        static final int EASES = 21;
        static final int TAX = 22;
        static final int GIFT = 23;
        static final int CAST = 24;
        static final int DIE = 25;
        static final int DAY = 26;
        static final int STAY = 27;
        static final int LAPSE = 28;
        static final int OLD = 29;
        static final int YOUNG = 30;
        static final int PLAIN = 31;
        static final int SAINT = 32;
        static final int HOT = 33;
        static final int HERMIT = 34;
        static final int NOT = 35;
        static final int AND = 36;
        static final int OR = 37;
        static final int HAS = 38;
        static final int JEALOUS = 39;
        static final int YEARS = 40;
        static final int KNOWN = 41;

        private static final int LONGEST_WORD = 8;
        private static final int LONGEST_NUMBER = 4;
        private static final String SIGNS = "()<=+-*;";
        private static final String WORDS = "person age envy grudge heir bar dead ties grows eases tax gift cast die day stay lapse old young plain saint hot hermit not and or has jealous years known ";

        private final char[] signs = new char[ROOM];
        int length;
        int token;
        int place;
        int number;
        private int behind;

        void append(long eight) {
            for (int shift = 56; shift >= 0; shift -= 8) {
                int sign = (int) (eight >>> shift) & 255;
                boolean isTaken = sign == 10 || sign >= 32 && sign <= 126;
                if (isTaken && length < ROOM) {
                    signs[length] = (char) sign;
                    length++;
                }
            }
        }

        void lookAtFirst() {
            behind = 0;
            lookAtNext();
        }

        void lookAtNext() {
            place = behind;
            while (place < length && isBlank(signs[place])) {
                place++;
            }
            behind = place;
            if (place >= length) {
                token = END;
            } else if (isLetter(signs[place])) {
                passWord();
                token = behind - place <= LONGEST_WORD ? wordToken() : WRONG;
            } else if (isNumeral(signs[place])) {
                passNumber();
                token = behind - place <= LONGEST_NUMBER ? NUMBER : WRONG;
            } else {
                int sign = SIGNS.indexOf(signs[place]);
                token = sign >= 0 ? OPEN + sign : WRONG;
                behind++;
            }
        }

        private void passWord() {
            while (behind < length && isLetter(signs[behind])) {
                behind++;
            }
        }

        private void passNumber() {
            number = 0;
            while (behind < length && isNumeral(signs[behind])) {
                number = number * 10 + (signs[behind] - '0');
                behind++;
            }
        }

        private int wordToken() {
            int word = PERSON;
            int alike = 0;
            for (int i = 0; i < WORDS.length(); i++) {
                char sign = WORDS.charAt(i);
                if (sign == ' ') {
                    if (alike == behind - place) {
                        return word;
                    }
                    word++;
                    alike = 0;
                } else if (alike >= 0 && place + alike < behind && signs[place + alike] == sign) {
                    alike++;
                } else {
                    alike = -1;
                }
            }
            return NAME;
        }

        boolean isName() {
            return token == NAME || token >= HAS;
        }

        /** The WORD as a number, no two of which are alike: it outlasts the tape. */
        long packedWord() {
            long packed = 0;
            for (int i = place; i < behind; i++) {
                packed = packed * 32 + (signs[i] - 'a' + 1);
            }
            return packed;
        }

        private static boolean isBlank(char sign) {
            return sign == 10 || sign == 32;
        }

        private static boolean isLetter(char sign) {
            return sign >= 'a' && sign <= 'z';
        }

        private static boolean isNumeral(char sign) {
            return sign >= '0' && sign <= '9';
        }
    }

    /** The laws of how grudges grow and are eased, both in one row: tokens, each operator behind what it joins. */
    private static final class Laws {
        // In each of five levels an operator of each of four ranks may wait for its right side: 21 values at most.
        private static final int MOST_VALUES = 32;

        private final int[] code = new int[Tape.ROOM];
        private final int[] values = new int[MOST_VALUES];
        private int height;
        private int has;
        private int jealous;
        private int years;
        private int known;
        int length;
        int growsFrom;
        int growsEnd;
        int easesFrom;
        int easesEnd;

        void clear() {
            length = 0;
            growsFrom = 0;
            growsEnd = 0;
            easesFrom = 0;
            easesEnd = 0;
        }

        void become(Laws other) {
            System.arraycopy(other.code, 0, code, 0, Tape.ROOM);
            length = other.length;
            growsFrom = other.growsFrom;
            growsEnd = other.growsEnd;
            easesFrom = other.easesFrom;
            easesEnd = other.easesEnd;
        }

        void addToken(int token) {
            if (length < Tape.ROOM) {
                code[length] = token;
                length++;
            }
        }

        /** Below 0, so that it is not taken for a token. */
        void addNumber(int number) {
            addToken(~number);
        }

        void tellFacts(int has, int jealous, int years, int known) {
            this.has = has;
            this.jealous = jealous;
            this.years = years;
            this.known = known;
        }

        int growth() {
            if (growsFrom == growsEnd) {
                return jealous > 4 ? 2 : 1;
            }
            return Math.max(0, Math.min(MOST_GRUDGE, worth(growsFrom, growsEnd)));
        }

        int easing() {
            if (easesFrom == easesEnd) {
                return 2;
            }
            return Math.max(0, Math.min(MOST_GRUDGE, worth(easesFrom, easesEnd)));
        }

        private int worth(int from, int end) {
            height = 0;
            for (int i = from; i < end; i++) {
                int piece = code[i];
                if (piece < 0) {
                    push(~piece);
                } else if (piece >= Tape.HAS) {
                    push(fact(piece));
                } else if (piece == Tape.NOT) {
                    push(pop() == 0 ? 1 : 0);
                } else {
                    int right = pop();
                    int left = pop();
                    push(joined(piece, left, right));
                }
            }
            return pop();
        }

        private void push(int value) {
            if (height < MOST_VALUES) {
                values[height] = value;
                height++;
            }
        }

        private int pop() {
            if (height <= 0) {
                return 0;
            }
            height--;
            return values[height];
        }

        private int fact(int token) {
            switch (token) {
                case Tape.HAS: return has;
                case Tape.JEALOUS: return jealous;
                case Tape.YEARS: return years;
                default: return known;
            }
        }

        private static int joined(int token, int left, int right) {
            switch (token) {
                case Tape.AND: return left != 0 && right != 0 ? 1 : 0;
                case Tape.OR: return left != 0 || right != 0 ? 1 : 0;
                case Tape.LESS: return left < right ? 1 : 0;
                case Tape.SAME: return left == right ? 1 : 0;
                case Tape.PLUS: return left + right;
                case Tape.MINUS: return left - right;
                default: return left * right;
            }
        }
    }

    /** Reads an E: operators wait till what they join is there. */
    private static final class LawReader {
        private static final int MOST_DEPTH = 5;
        private static final int TEST_RANK = 2;
        private static final int MOST_WAITING = 32;

        private final Tape tape;
        private final Laws laws;
        private final int[] waiting = new int[MOST_WAITING];
        private int waits;
        private int opens;
        private int depth;
        private boolean isPartDue;

        LawReader(Tape tape, Laws laws) {
            this.tape = tape;
            this.laws = laws;
        }

        /** Up to the token behind the E: 0, or the kind of the FAULT of the token that is looked at. */
        int readLaw() {
            waits = 0;
            opens = 0;
            depth = 0;
            isPartDue = true;
            for (int i = 0; i <= Tape.ROOM; i++) {
                int fault = 0;
                if (isPartDue) {
                    fault = takePart();
                } else if (rank(tape.token) > 0) {
                    fault = takeOperator();
                } else if (opens > 0 && tape.token == Tape.CLOSE) {
                    close();
                } else {
                    release(0);
                    return opens > 0 ? Reader.MISPLACED : 0;
                }
                if (fault != 0) {
                    return fault;
                }
                tape.lookAtNext();
            }
            return Reader.MISPLACED;
        }

        private int takePart() {
            int token = tape.token;
            boolean holdsParts = token == Tape.NOT || token == Tape.OPEN;
            if (!holdsParts && token != Tape.NUMBER && token < Tape.HAS) {
                return Reader.MISPLACED;
            }
            if (depth >= MOST_DEPTH) {
                return Reader.TOO_MANY;
            }
            if (holdsParts) {
                letWait(token);
                depth++;
                opens += token == Tape.OPEN ? 1 : 0;
                return 0;
            }
            if (token == Tape.NUMBER) {
                laws.addNumber(tape.number);
            } else {
                laws.addToken(token);
            }
            endPart();
            return 0;
        }

        private int takeOperator() {
            int rank = rank(tape.token);
            if (rank == TEST_RANK) {
                release(TEST_RANK + 1);
                if (waits > 0 && rank(waiting[waits - 1]) == TEST_RANK) {
                    return Reader.MISPLACED;
                }
            } else {
                release(rank);
            }
            letWait(tape.token);
            isPartDue = true;
            return 0;
        }

        /** How strongly it binds; 0: it is no operator between two. */
        private static int rank(int token) {
            switch (token) {
                case Tape.AND:
                case Tape.OR: return 1;
                case Tape.LESS:
                case Tape.SAME: return TEST_RANK;
                case Tape.PLUS:
                case Tape.MINUS: return 3;
                case Tape.TIMES: return 4;
                default: return 0;
            }
        }

        private void letWait(int token) {
            if (waits < MOST_WAITING) {
                waiting[waits] = token;
                waits++;
            }
        }

        /** Those behind the last bracket that bind at least so strongly wait no more. */
        private void release(int rank) {
            while (waits > 0 && waiting[waits - 1] != Tape.OPEN && rank(waiting[waits - 1]) >= rank) {
                waits--;
                laws.addToken(waiting[waits]);
            }
        }

        private void close() {
            release(0);
            if (waits > 0) {
                waits--;
            }
            opens--;
            depth--;
            endPart();
        }

        private void endPart() {
            isPartDue = false;
            while (waits > 0 && waiting[waits - 1] == Tape.NOT) {
                waits--;
                depth--;
                laws.addToken(Tape.NOT);
            }
        }
    }

    /** What was told of the people, and the laws. */
    private static final class Republic {
        static final int SAINT = 1;
        static final int HOT = 2;
        static final int HERMIT = 3;
        static final int FIRST_BAR = 7;

        final long[] names = new long[MOST_PEOPLE];
        final int[] kinds = new int[MOST_PEOPLE];
        final int[] ages = new int[MOST_PEOPLE];
        final int[] envies = new int[MOST_PEOPLE];
        final int[] heirs = new int[MOST_PEOPLE];
        final int[] grudges = new int[PAIRS];
        final Laws laws = new Laws();
        int people;
        int bar = FIRST_BAR;
        boolean lapse;
        boolean young;

        void clear() {
            Arrays.fill(heirs, NONE);
            Arrays.fill(grudges, NONE);
            laws.clear();
            people = 0;
            bar = FIRST_BAR;
            lapse = false;
            young = false;
        }

        void become(Republic other) {
            System.arraycopy(other.names, 0, names, 0, MOST_PEOPLE);
            System.arraycopy(other.kinds, 0, kinds, 0, MOST_PEOPLE);
            System.arraycopy(other.ages, 0, ages, 0, MOST_PEOPLE);
            System.arraycopy(other.envies, 0, envies, 0, MOST_PEOPLE);
            System.arraycopy(other.heirs, 0, heirs, 0, MOST_PEOPLE);
            System.arraycopy(other.grudges, 0, grudges, 0, PAIRS);
            laws.become(other.laws);
            people = other.people;
            bar = other.bar;
            lapse = other.lapse;
            young = other.young;
        }

        void addPerson(long name, int kind, int age, int envy) {
            if (people < MOST_PEOPLE) {
                names[people] = name;
                kinds[people] = kind;
                ages[people] = age;
                envies[people] = envy;
                people++;
            }
        }

        boolean has(int person) {
            return person >= 0 && person < people;
        }

        boolean hasPair(int person, int other) {
            return has(person) && has(other) && person != other;
        }

        int numberOf(long name) {
            for (int person = 0; person < people; person++) {
                if (names[person] == name) {
                    return person;
                }
            }
            return NONE;
        }

        /** The least grudge of which one casts on a day. */
        int barOf(int person, int commonBar) {
            return kinds[person] == HOT ? Math.max(1, commonBar - 2) : commonBar;
        }
    }

    /** Reads the tape line by line and finds the first token that is wrong. */
    private abstract static class Reader {
        static final int MISPLACED = 1;
        static final int UNKNOWN = 2;
        static final int AGAIN = 3;
        static final int NOT_AS_TOLD = 4;
        static final int TOO_MANY = 5;
        private static final int FAULT_STEP = 16;

        final Tape tape;
        final Republic republic;
        int value;
        private int fault;

        Reader(Tape tape, Republic republic) {
            this.tape = tape;
            this.republic = republic;
        }

        abstract void begin();

        /** A line up to its end: whether it has no FAULT. */
        abstract boolean readLine();

        int readTape() {
            begin();
            fault = 0;
            tape.lookAtFirst();
            boolean isFine = true;
            for (int line = 0; line < Tape.ROOM && isFine && tape.token != Tape.END; line++) {
                isFine = readLine() && take(Tape.STOP);
            }
            tape.length = 0;
            return fault;
        }

        boolean fail(int kind) {
            fault = kind + FAULT_STEP * tape.place;
            return false;
        }

        boolean take(int token) {
            if (tape.token != token) {
                return fail(MISPLACED);
            }
            tape.lookAtNext();
            return true;
        }

        /** Whether the second one of the two was taken is the value then, as 1 or 0. */
        boolean takeEither(int first, int second) {
            if (tape.token != first && tape.token != second) {
                return fail(MISPLACED);
            }
            value = tape.token == second ? 1 : 0;
            tape.lookAtNext();
            return true;
        }

        /** The number is the value then. */
        boolean takeNumber(int least, int most) {
            if (tape.token != Tape.NUMBER) {
                return fail(MISPLACED);
            }
            if (tape.number < least || tape.number > most) {
                return fail(NOT_AS_TOLD);
            }
            value = tape.number;
            tape.lookAtNext();
            return true;
        }

        /** The person told is the value then; the token is looked at yet, as more may be wrong of it. */
        boolean findPerson() {
            if (!tape.isName()) {
                return fail(MISPLACED);
            }
            value = republic.numberOf(tape.packedWord());
            return value != NONE || fail(UNKNOWN);
        }

        boolean findOther(int person) {
            return findPerson() && (value != person || fail(AGAIN));
        }
    }

    private static final class RepublicReader extends Reader {
        private final LawReader lawReader;
        private int toldOnce;

        RepublicReader(Tape tape, Republic draft) {
            super(tape, draft);
            lawReader = new LawReader(tape, draft.laws);
        }

        @Override
        void begin() {
            republic.clear();
            toldOnce = 0;
        }

        @Override
        boolean readLine() {
            switch (tape.token) {
                case Tape.PERSON: return readPerson();
                case Tape.GRUDGE: return readGrudge();
                case Tape.HEIR: return readHeir();
                case Tape.BAR: return readBar();
                case Tape.DEAD: return readDead();
                case Tape.TIES: return readTies();
                case Tape.GROWS: return readGrows();
                case Tape.EASES: return readEases();
                default: return fail(MISPLACED);
            }
        }

        private boolean readPerson() {
            int person = republic.people;
            if (person >= MOST_PEOPLE) {
                return fail(TOO_MANY);
            }
            tape.lookAtNext();
            if (!tape.isName()) {
                return fail(MISPLACED);
            }
            long name = tape.packedWord();
            if (republic.numberOf(name) != NONE) {
                return fail(AGAIN);
            }
            tape.lookAtNext();
            if (tape.token < Tape.PLAIN || tape.token > Tape.HERMIT) {
                return fail(MISPLACED);
            }
            int kind = tape.token - Tape.PLAIN;
            tape.lookAtNext();
            if (!take(Tape.AGE) || !takeNumber(0, 99)) {
                return false;
            }
            int age = value;
            if (!take(Tape.ENVY) || !takeNumber(0, 9)) {
                return false;
            }
            republic.addPerson(name, kind, age, value);
            return true;
        }

        private boolean readGrudge() {
            tape.lookAtNext();
            if (!findPerson()) {
                return false;
            }
            int person = value;
            tape.lookAtNext();
            if (!findOther(person)) {
                return false;
            }
            int pair = person * MOST_PEOPLE + value;
            if (republic.grudges[pair] != NONE) {
                return fail(AGAIN);
            }
            tape.lookAtNext();
            if (!takeNumber(0, MOST_GRUDGE)) {
                return false;
            }
            republic.grudges[pair] = value;
            return true;
        }

        private boolean readHeir() {
            tape.lookAtNext();
            if (!findPerson()) {
                return false;
            }
            int person = value;
            if (republic.heirs[person] != NONE) {
                return fail(AGAIN);
            }
            tape.lookAtNext();
            if (!findOther(person)) {
                return false;
            }
            republic.heirs[person] = value;
            tape.lookAtNext();
            return true;
        }

        private boolean readBar() {
            if (!takeOnce() || !takeNumber(1, MOST_BAR)) {
                return false;
            }
            republic.bar = value;
            return true;
        }

        private boolean readDead() {
            if (!takeOnce() || !takeEither(Tape.STAY, Tape.LAPSE)) {
                return false;
            }
            republic.lapse = value == 1;
            return true;
        }

        private boolean readTies() {
            if (!takeOnce() || !takeEither(Tape.OLD, Tape.YOUNG)) {
                return false;
            }
            republic.young = value == 1;
            return true;
        }

        private boolean readGrows() {
            if (!takeOnce()) {
                return false;
            }
            republic.laws.growsFrom = republic.laws.length;
            int kind = lawReader.readLaw();
            republic.laws.growsEnd = republic.laws.length;
            return kind == 0 || fail(kind);
        }

        private boolean readEases() {
            if (!takeOnce()) {
                return false;
            }
            republic.laws.easesFrom = republic.laws.length;
            int kind = lawReader.readLaw();
            republic.laws.easesEnd = republic.laws.length;
            return kind == 0 || fail(kind);
        }

        /** The first word of a line that may be told once. */
        private boolean takeOnce() {
            int bit = 1 << tape.token - Tape.BAR;
            if ((toldOnce & bit) != 0) {
                return fail(AGAIN);
            }
            toldOnce |= bit;
            tape.lookAtNext();
            return true;
        }
    }

    private static final class YearsReader extends Reader {
        final Years years = new Years();

        YearsReader(Tape tape, Republic told) {
            super(tape, told);
        }

        @Override
        void begin() {
            years.count = 0;
        }

        @Override
        boolean readLine() {
            int deed = tape.token;
            if (deed < Tape.TAX || deed > Tape.DAY) {
                return fail(MISPLACED);
            }
            if (years.count >= Years.MOST_LINES) {
                return fail(TOO_MANY);
            }
            tape.lookAtNext();
            int person = 0;
            int other = 0;
            if (deed != Tape.TAX && deed != Tape.DAY) {
                if (!findPerson()) {
                    return false;
                }
                person = value;
                tape.lookAtNext();
            }
            if (deed == Tape.GIFT || deed == Tape.CAST) {
                if (!findOther(person)) {
                    return false;
                }
                other = value;
                tape.lookAtNext();
            }
            years.add(deed, person, other);
            return true;
        }
    }

    /** Lines, each as one number: the other one + 8 * the person + 64 * the deed's token. */
    private static final class Years {
        static final int MOST_LINES = 40;

        final int[] lines = new int[MOST_LINES];
        int count;

        void become(Years other) {
            System.arraycopy(other.lines, 0, lines, 0, MOST_LINES);
            count = other.count;
        }

        void add(int deed, int person, int other) {
            if (count < MOST_LINES) {
                lines[count] = other + 8 * person + 64 * deed;
                count++;
            }
        }
    }

    /** How it is: who lives, the votes and the grudges. */
    private static final class Standing {
        private final Republic republic;
        final int[] grudges = new int[PAIRS];
        final int[] casts = new int[PAIRS];
        final int[] votes = new int[MOST_PEOPLE];
        int alive;
        int day;

        Standing(Republic republic) {
            this.republic = republic;
        }

        void begin() {
            for (int i = 0; i < PAIRS; i++) {
                grudges[i] = Math.max(0, republic.grudges[i]);
            }
            Arrays.fill(casts, 0);
            Arrays.fill(votes, 1);
            alive = (1 << republic.people) - 1;
            day = 0;
        }

        void become(Standing other) {
            System.arraycopy(other.grudges, 0, grudges, 0, PAIRS);
            System.arraycopy(other.casts, 0, casts, 0, PAIRS);
            System.arraycopy(other.votes, 0, votes, 0, MOST_PEOPLE);
            alive = other.alive;
            day = other.day;
        }

        boolean isAlive(int person) {
            return person >= 0 && person < MOST_PEOPLE && (alive >> person & 1) == 1;
        }

        int countAgainst(int person) {
            int count = 0;
            for (int by = 0; by < republic.people; by++) {
                if (!republic.lapse || isAlive(by)) {
                    count += casts[by * MOST_PEOPLE + person];
                }
            }
            return count;
        }

        int castBy(int person) {
            int count = 0;
            for (int other = 0; other < republic.people; other++) {
                count += casts[person * MOST_PEOPLE + other];
            }
            return count;
        }

        int governor() {
            int best = NONE;
            for (int person = 0; person < republic.people; person++) {
                if (isAlive(person) && (best == NONE || lead(person, best) >= 0)) {
                    best = person;
                }
            }
            return best;
        }

        /** How many more votes against one leave him ahead of another one; below 0: he is behind. */
        private int lead(int person, int other) {
            int lead = countAgainst(other) - countAgainst(person);
            return winsTie(person, other) ? lead : lead - 1;
        }

        private boolean winsTie(int person, int other) {
            int older = republic.ages[person] - republic.ages[other];
            if (older == 0) {
                return person < other;
            }
            return republic.young ? older < 0 : older > 0;
        }

        boolean canLevy() {
            int governor = governor();
            return governor != NONE && republic.kinds[governor] != Republic.HERMIT;
        }

        /** How many grudges grew. */
        int levy() {
            int governor = governor();
            if (governor == NONE) {
                return 0;
            }
            int grown = 0;
            for (int person = 0; person < republic.people; person++) {
                if (person != governor && isAlive(person)) {
                    int pair = person * MOST_PEOPLE + governor;
                    tellFacts(person, governor);
                    int grudge = Math.min(MOST_GRUDGE, grudges[pair] + republic.laws.growth());
                    grown += grudge > grudges[pair] ? 1 : 0;
                    grudges[pair] = grudge;
                }
            }
            return grown;
        }

        private void tellFacts(int person, int other) {
            republic.laws.tellFacts(grudges[person * MOST_PEOPLE + other], republic.envies[person],
                republic.ages[person], countAgainst(other));
        }

        boolean areTwoAlive(int person, int other) {
            return person != other && isAlive(person) && isAlive(other);
        }

        /** The other one's grudge then. */
        int give(int person, int other) {
            int pair = other * MOST_PEOPLE + person;
            tellFacts(other, person);
            grudges[pair] = Math.max(0, grudges[pair] - republic.laws.easing());
            return grudges[pair];
        }

        boolean canVote(int person, int other) {
            return areTwoAlive(person, other) && votes[person] > 0;
        }

        void vote(int person, int other) {
            votes[person]--;
            casts[person * MOST_PEOPLE + other]++;
        }

        /** How many votes went to his heir. */
        int bury(int person) {
            int left = votes[person];
            int heir = republic.heirs[person];
            votes[person] = 0;
            alive &= ~(1 << person);
            if (!isAlive(heir)) {
                return 0;
            }
            votes[heir] += left;
            return left;
        }

        /** How many were cast. */
        int passDay(int bar) {
            int cast = 0;
            for (int person = 0; person < republic.people; person++) {
                int target = target(person, bar);
                if (target != NONE) {
                    vote(person, target);
                    grudges[person * MOST_PEOPLE + target] = 0;
                    cast++;
                }
            }
            day++;
            return cast;
        }

        int passTaxedDay(int bar) {
            if (canLevy()) {
                levy();
            }
            return passDay(bar);
        }

        /** Whether the line could be, and so was done. */
        boolean perform(int line) {
            int person = line >> 3 & 7;
            int other = line & 7;
            int deed = line >> 6;
            if (!canBe(deed, person, other)) {
                return false;
            }
            switch (deed) {
                case Tape.TAX:
                    levy();
                    break;
                case Tape.GIFT:
                    give(person, other);
                    break;
                case Tape.CAST:
                    vote(person, other);
                    break;
                case Tape.DIE:
                    bury(person);
                    break;
                default:
                    passDay(republic.bar);
                    break;
            }
            return true;
        }

        private boolean canBe(int deed, int person, int other) {
            switch (deed) {
                case Tape.TAX: return canLevy();
                case Tape.GIFT: return areTwoAlive(person, other);
                case Tape.CAST: return canVote(person, other);
                case Tape.DIE: return isAlive(person);
                default: return true;
            }
        }

        private boolean castsOnDays(int person) {
            return isAlive(person) && votes[person] > 0 && republic.kinds[person] != Republic.SAINT;
        }

        /** Whom one casts against on a day; NONE: nobody. */
        int target(int person, int bar) {
            if (!castsOnDays(person)) {
                return NONE;
            }
            int worst = worst(person);
            if (worst == NONE || grudges[person * MOST_PEOPLE + worst] < republic.barOf(person, bar)) {
                return NONE;
            }
            return worst;
        }

        /** Against whom alive his grudge is the greatest. */
        private int worst(int person) {
            int worst = NONE;
            int greatest = -1;
            for (int other = 0; other < republic.people; other++) {
                int grudge = grudges[person * MOST_PEOPLE + other];
                if (other != person && isAlive(other) && grudge > greatest) {
                    worst = other;
                    greatest = grudge;
                }
            }
            return worst;
        }

        /** Whether one alive keeps his vote for this one, of all. */
        boolean isThreat(int person, int other) {
            return isAlive(person) && votes[person] > 0 && worst(person) == other
                && grudges[person * MOST_PEOPLE + other] > 0;
        }

        /** Each other one needs his votes from others than himself, and all need them together: then they can be shared out. */
        int votesToBring(int person) {
            int supply = votesLeft() - votes[person];
            int needed = 0;
            for (int other = 0; other < republic.people; other++) {
                if (areTwoAlive(person, other)) {
                    int need = Math.max(0, -lead(person, other));
                    if (need > supply - votes[other]) {
                        return NONE;
                    }
                    needed += need;
                }
            }
            return needed <= supply ? needed : NONE;
        }

        int votesToBear(int person) {
            int least = NONE;
            for (int other = 0; other < republic.people; other++) {
                if (areTwoAlive(person, other)) {
                    int lead = lead(person, other);
                    least = least == NONE ? lead : Math.min(least, lead);
                }
            }
            return least;
        }

        /** The gifts of another one till this one's grudge against him is too small to cast; they are given. */
        int giftsToQuiet(int person, int other) {
            if (!castsOnDays(person) || !areTwoAlive(person, other)) {
                return 0;
            }
            int pair = person * MOST_PEOPLE + other;
            int bar = republic.barOf(person, republic.bar);
            int gifts = 0;
            while (grudges[pair] >= bar && gifts <= MOST_GRUDGE) {
                int before = grudges[pair];
                if (give(other, person) >= before) {
                    return NONE;
                }
                gifts++;
            }
            return gifts;
        }

        int voters() {
            int voters = 0;
            for (int person = 0; person < republic.people; person++) {
                if (isAlive(person) && votes[person] > 0) {
                    voters |= 1 << person;
                }
            }
            return voters;
        }

        int votesLeft() {
            int left = 0;
            for (int person = 0; person < republic.people; person++) {
                left += isAlive(person) ? votes[person] : 0;
            }
            return left;
        }

        int allGrudges() {
            int sum = 0;
            for (int person = 0; person < republic.people; person++) {
                for (int other = 0; other < republic.people; other++) {
                    sum += areTwoAlive(person, other) ? grudges[person * MOST_PEOPLE + other] : 0;
                }
            }
            return sum;
        }

        int allCasts() {
            int sum = 0;
            for (int person = 0; person < republic.people; person++) {
                sum += castBy(person);
            }
            return sum;
        }
    }

    /** What a mark holds: how it is, the years, and what is quiet (how often it was heard, and the bars left by it). */
    private static final class Moment {
        final Standing standing;
        final Years years = new Years();
        int heard;
        int barsLeft = ALL_BARS;
        boolean isLaid;

        Moment(Republic republic) {
            standing = new Standing(republic);
        }

        void begin() {
            standing.begin();
            years.count = 0;
            heard = 0;
            barsLeft = ALL_BARS;
        }

        void become(Moment other) {
            standing.become(other.standing);
            years.become(other.years);
            heard = other.heard;
            barsLeft = other.barsLeft;
        }
    }

    /** What can be undone: a ring, in which the oldest one makes room. */
    private static final class Past {
        private static final int ROOM = 16;

        private final Standing[] ring = new Standing[ROOM];
        private int top;
        int size;

        Past(Republic republic) {
            for (int i = 0; i < ROOM; i++) {
                ring[i] = new Standing(republic);
            }
        }

        void forget() {
            size = 0;
        }

        void keep(Standing standing) {
            ring[top].become(standing);
            top = top + 1 < ROOM ? top + 1 : 0;
            size = Math.min(ROOM, size + 1);
        }

        boolean bringBack(Standing standing) {
            if (size == 0) {
                return false;
            }
            top = top > 0 ? top - 1 : ROOM - 1;
            standing.become(ring[top]);
            size--;
            return true;
        }
    }
}
