import java.util.Arrays;
import java.util.NoSuchElementException;

/**
 * A queue at a well that governs: who stands at which place holds which power. The methods of the
 * face test what they are asked; the classes inside read the text, let minutes go by, look ahead.
 */
public final class ThirdInLine {
    public static final int NONE = -1;

    /** Answered where the question is right, but nobody or not enough is there. */
    private static final int LACKING = -2;

    private static final int TAPE_BYTES = 700;
    private static final int FED_BYTES = 20;
    private static final int MOST_MEN = 8;
    private static final int PLACES = 8;
    private static final int POWERS = 3;
    private static final int MINUTES = 120;
    private static final int LAST_TO_COME = 59;
    private static final int MOST_AHEAD = 60;
    private static final int MOST_COIN = 99;
    private static final int MOST_KNEELING = 20;
    private static final int MOST_STONES = 24;
    private static final int MOST_UNDONE = 20;

    private static final int TO_COME = 0;
    private static final int IN_QUEUE = 1;
    private static final int SERVED = 2;
    private static final int OUT = 3;

    private static final int TAX_POWER = 2;

    private static final int LEVY_LAW = 0;
    private static final int WEAR_LAW = 1;
    private static final int NEED_LAW = 2;
    private static final int LAWS = 3;
    private static final int MOST_KNOTS = 64;
    private static final int FACTS = 6;

    /** How minutes may go by otherwise than told; these are bits of a queue's manner. */
    private static final int NO_COUGHS = 1;
    private static final int NO_MUTTERING = 2;
    private static final int NO_LEVY = 4;
    private static final int ENDLESS_PATIENCE = 8;
    private static final int ENDLESS_WATER = 16;
    private static final int GREATER_RATE = 32;
    private static final int AS_IT_GOES = NO_COUGHS | NO_MUTTERING;

    private static final int WRONG_TOKEN = 1;
    private static final int TOO_MUCH = 2;
    private static final int TOLD_ALREADY = 3;
    private static final int UNTOLD_MAN = 4;
    private static final int GUARDS_HIMSELF = 5;

    /** The language's words, six signs each; a word's kind as a token is its number in this row. */
    private static final String WORDS = "man   guard power well  leviesear   mutterseed  law   crown judge tax   levy  wear  need  yes   age   far   bucketcoin  place wait  and   or    not   ";
    private static final int MOST_LETTERS = 6;
    private static final int MAN = 0;
    private static final int GUARD = 1;
    private static final int POWER = 2;
    private static final int WELL = 3;
    private static final int LEVIES = 4;
    private static final int EAR = 5;
    private static final int MUTTER = 6;
    private static final int SEED = 7;
    private static final int LAW = 8;
    private static final int CROWN = 9;
    private static final int TAX = 11;
    private static final int LEVY = 12;
    private static final int NEED = 14;
    private static final int YES = 15;
    private static final int AGE = 16;
    private static final int WAIT = 21;
    private static final int AND = 22;
    private static final int OR = 23;
    private static final int NOT = 24;
    private static final int LANGUAGE_WORDS = 25;

    private static final int NAME = 25;
    private static final int NUMBER = 26;
    private static final int END = 27;
    private static final int WRONG = 28;
    private static final int SEMICOLON = 29;
    private static final int OPEN = 30;
    private static final int CLOSE = 31;
    private static final int LESS = 32;
    private static final int LESS_OR_LIKE = 33;
    private static final int LIKE = 34;
    private static final int UNLIKE = 35;
    private static final int MORE_OR_LIKE = 36;
    private static final int MORE = 37;
    private static final int PLUS = 38;
    private static final int MINUS = 39;
    private static final int TIMES = 40;
    private static final int BY = 41;

    private final Reader reader = new Reader();
    private Told told = new Told();
    private Told spare = new Told();
    private final Queue now = new Queue();
    private final int[] past = new int[POWERS * MINUTES];
    private final Steps steps = new Steps();
    private final Queue image = new Queue();
    private boolean imaged = false;
    private final Stones stones = new Stones();
    private final Counsel counsel = new Counsel();

    public ThirdInLine() {
        now.start(told);
    }

    public int feed(int a, int b, int c, int d, int e) {
        Tokens tape = reader.tokens;
        if (tape.many + FED_BYTES > TAPE_BYTES) {
            return NONE;
        }
        tape.put(a);
        tape.put(b);
        tape.put(c);
        tape.put(d);
        tape.put(e);
        return tape.many;
    }

    public int text(int n) {
        if (n < 0 || n > reader.tokens.many) {
            return LACKING;
        }
        reader.tokens.many = 0;
        if (!reader.read(n, spare)) {
            return NONE;
        }
        Told former = told;
        told = spare;
        spare = former;
        now.start(told);
        steps.clear();
        stones.clear();
        imaged = false;
        return told.lines;
    }

    public int fault(int what) {
        switch (what) {
            case 0: return reader.fault;
            case 1: return reader.place;
            default: return NONE;
        }
    }

    public int named(int letters) {
        return told.find(letters);
    }

    public int look(int man, int what) throws IndexOutOfBoundsException, NoSuchElementException {
        if (!isMan(man)) {
            throw new IndexOutOfBoundsException("no such man");
        }
        switch (what) {
            case 0: return told.men[man].age;
            case 1: return told.men[man].far;
            case 2: return now.patience[man];
            case 3: return now.filled[man];
            case 4: return now.coin[man];
            case 5: return now.placeOf(man);
            case 6: return now.state[man];
            case 7: return now.waited(man);
            case 8: return now.kneeling[man];
            case 9: return now.coughed[man];
            case 10: return told.men[man].guards;
            default: throw new NoSuchElementException("no such what");
        }
    }

    public int stands(int place) {
        return isPlace(place) ? now.manAt(place) : NONE;
    }

    public int holder(int kind) {
        return isPower(kind) ? now.manAt(now.powers[kind]) : NONE;
    }

    public long law(int what, int man) {
        if (what < 0 || what >= LAWS) {
            return Law.ERROR;
        }
        if (what == NEED_LAW) {
            return told.laws[what].value(now, 0, now.size);
        }
        int place = now.placeOf(man);
        return told.laws[what].value(now, place, place);
    }

    public int go(int n) {
        if (n < 0 || n > MINUTES - now.minute) {
            return NONE;
        }
        for (int i = 0; i < n; i++) {
            now.pass();
            recordHolders(now.minute - 1);
        }
        if (n > 0) {
            steps.clear();
        }
        return now.minute;
    }

    private void recordHolders(int minute) {
        for (int kind = 0; kind < POWERS; kind++) {
            past[kind * MINUTES + minute] = now.manAt(now.powers[kind]);
        }
    }

    public int join(int man) {
        if (!isToCome(man)) {
            return NONE;
        }
        steps.remember(now);
        now.append(man);
        return now.placeOf(man);
    }

    public boolean out(int man) {
        if (!isInQueue(man)) {
            return false;
        }
        steps.remember(now);
        now.remove(now.placeOf(man), OUT);
        return true;
    }

    public boolean swap(int one, int other, int coin) {
        if (!isInQueue(one) || !isInQueue(other) || one == other) {
            return false;
        }
        if (coin < 0 || coin > MOST_COIN || coin > now.coin[one]) {
            return false;
        }
        steps.remember(now);
        now.exchange(one, other);
        now.coin[one] -= coin;
        now.coin[other] += coin;
        return true;
    }

    public boolean kneel(int man, int minutes) {
        if (!isInQueue(man) || minutes < 1 || minutes > MOST_KNEELING) {
            return false;
        }
        if (now.kneeling[man] == minutes) {
            return false;
        }
        steps.remember(now);
        now.kneeling[man] = minutes;
        return true;
    }

    public boolean cough(int man) {
        if (!isInQueue(man) || now.coughed[man] != 0) {
            return false;
        }
        steps.remember(now);
        now.coughed[man] = 1;
        return true;
    }

    public boolean move(int kind, int place) {
        if (!isPower(kind) || !isPlace(place) || now.powers[kind] == place) {
            return false;
        }
        steps.remember(now);
        now.powers[kind] = place;
        return true;
    }

    public int was(int kind, int minute) {
        if (!isPower(kind) || minute < 0 || minute >= now.minute) {
            return NONE;
        }
        return past[kind * MINUTES + minute];
    }

    public int ruled(int man, int kind) {
        if (!isMan(man) || !isPower(kind)) {
            return NONE;
        }
        int minutes = 0;
        for (int minute = 0; minute < now.minute; minute++) {
            if (past[kind * MINUTES + minute] == man) {
                minutes++;
            }
        }
        return minutes;
    }

    public int served(int man) {
        return isMan(man) ? counsel.servedIn(now, man) : NONE;
    }

    public int coming(int man, int place, int minute) {
        if (!isToCome(man) || !isPlace(place) || minute < now.minute || minute >= MINUTES) {
            return NONE;
        }
        return counsel.firstToCome(now, man, place, minute);
    }

    public int decree(int k, int m, int what) {
        if (k < 1 || k > PLACES || m < 0 || m > k || !isZeroOrOne(what)) {
            return NONE;
        }
        return counsel.bribes(now, k, m, what);
    }

    public int coup() {
        return now.size == 0 ? NONE : counsel.plotters(now);
    }

    public int rests(int one, int other, int n) {
        if (!isGame(one, other, n)) {
            return NONE;
        }
        counsel.play(now, one, other, n);
        return counsel.manyRests;
    }

    public int rest(int one, int other, int n, int k) {
        if (!isGame(one, other, n) || k < 0) {
            return NONE;
        }
        counsel.play(now, one, other, n);
        return k < counsel.manyRests ? counsel.restRow[k] : LACKING;
    }

    public int best(int kind, int man, int n, int what) {
        if (!isPower(kind) || !isMan(man) || !isAhead(n, 1) || !isZeroOrOne(what)) {
            return NONE;
        }
        return counsel.bestPlace(now, kind, man, n, what);
    }

    public int fairest(int kind, int n, int what) {
        if (!isPower(kind) || !isAhead(n, 1) || !isZeroOrOne(what)) {
            return NONE;
        }
        return counsel.fairestPlace(now, kind, n, what);
    }

    public int gain(int place, int n) {
        if (place < 0 || place >= now.size || !isAhead(n, 1)) {
            return NONE;
        }
        return counsel.gainers(now, place, n);
    }

    public int stone(int minute, int place, int man) {
        if (minute < 0 || minute > LAST_TO_COME || !isPlace(place)) {
            return NONE;
        }
        if (man != NONE && !isMan(man)) {
            return NONE;
        }
        return stones.lay(minute, place, man == NONE ? LACKING : man);
    }

    public int strike(int stone) {
        return stones.layStrike(stone);
    }

    public boolean known(int n) {
        return stones.knowBy(n);
    }

    public int came() {
        stones.search(told);
        return stones.manyWays;
    }

    public int one(int k, int what) {
        if (k < 0 || !isZeroOrOne(what)) {
            return NONE;
        }
        stones.search(told);
        if (k >= stones.manyWays) {
            return LACKING;
        }
        return what == 0 ? stones.wayMan[k] : stones.wayMinute[k];
    }

    public int empty(int n, int what) {
        if (!isAhead(n, 1) || !isZeroOrOne(what)) {
            return NONE;
        }
        return counsel.emptyMinutes(now, n, what);
    }

    public int chance(int seed, int man, int n) {
        if (seed < 0 || !isMan(man) || !isAhead(n, 1)) {
            return NONE;
        }
        return counsel.timesServed(now, seed, man, n);
    }

    public int tried(int what, int i, int n) {
        if (what < 0 || what > 5 || !isAhead(n, 0)) {
            return NONE;
        }
        if (what == 2 ? !isMan(i) : i != 0) {
            return NONE;
        }
        return counsel.servedOtherwise(now, what, i, n);
    }

    public int undo() {
        return steps.takeBack(now) ? steps.many : NONE;
    }

    public int keep() {
        image.copy(now);
        imaged = true;
        return now.minute;
    }

    public int back() {
        if (!imaged) {
            return NONE;
        }
        now.copy(image);
        steps.clear();
        return now.minute;
    }

    public int count(int what) {
        switch (what) {
            case 0: return told.manyMen;
            case 1: return told.knots;
            case 2: return now.minute;
            case 3: return now.size;
            case 4: return now.howMany(SERVED);
            case 5: return now.howMany(OUT);
            case 6: return now.water;
            case 7: return now.allCoin();
            case 8: return stones.many;
            case 9: return stones.knownBy();
            case 10: return steps.many;
            case 11: return now.powers[0];
            case 12: return now.powers[1];
            case 13: return now.powers[2];
            case 14: return now.allCoughs();
            default: return NONE;
        }
    }

    private boolean isMan(int man) {
        return man >= 0 && man < told.manyMen;
    }

    private boolean isToCome(int man) {
        return isMan(man) && now.state[man] == TO_COME;
    }

    private boolean isInQueue(int man) {
        return isMan(man) && now.state[man] == IN_QUEUE;
    }

    private boolean isPower(int kind) {
        return kind >= 0 && kind < POWERS;
    }

    private boolean isPlace(int place) {
        return place >= 0 && place < PLACES;
    }

    private boolean isZeroOrOne(int what) {
        return what == 0 || what == 1;
    }

    private boolean isAhead(int n, int least) {
        return n >= least && n <= MOST_AHEAD && n <= MINUTES - now.minute;
    }

    private boolean isGame(int one, int other, int n) {
        return isToCome(one) && isToCome(other) && one != other
            && now.minute <= LAST_TO_COME && isAhead(n, 1);
    }

    /** A man as the text tells him. */
    private static final class Man {
        int name;
        int age;
        int far;
        int patience;
        int bucket;
        int coin;
        int bribe;
        int comes;
        boolean leans;
        int guards;
    }

    /** What a text tells. */
    private static final class Told {
        final Man[] men = new Man[MOST_MEN];
        final int[] powers = new int[POWERS];
        final Law[] laws = new Law[LAWS];
        int lines;
        int manyMen;
        int knots;
        int water;
        int rate;
        int levies;
        int ear;
        int mutter;
        int seed;

        Told() {
            for (int i = 0; i < MOST_MEN; i++) {
                men[i] = new Man();
            }
            for (int i = 0; i < LAWS; i++) {
                laws[i] = new Law();
            }
            clear();
        }

        void clear() {
            lines = 0;
            manyMen = 0;
            knots = 0;
            water = 200;
            rate = 2;
            levies = 10;
            ear = 3;
            mutter = 0;
            seed = 0;
            for (int kind = 0; kind < POWERS; kind++) {
                powers[kind] = kind;
            }
            for (int i = 0; i < LAWS; i++) {
                laws[i].length = 0;
            }
        }

        int find(int name) {
            for (int i = 0; i < manyMen; i++) {
                if (men[i].name == name) {
                    return i;
                }
            }
            return NONE;
        }
    }

    /** An expression, operands ahead of their sign: a number as it is, all else as minus a token's kind. */
    private static final class Law {
        static final long ERROR = Long.MIN_VALUE;
        static final long GREATEST = 1000000000000L;

        final int[] code = new int[MOST_KNOTS];
        final long[] stack = new long[MOST_KNOTS];
        final long[] facts = new long[FACTS];
        int length = 0;

        void add(int knot) {
            if (length < MOST_KNOTS) {
                code[length] = knot;
                length++;
            }
        }

        /** Its value for who stands at a place; ERROR also if nobody does or it isn't told. */
        long value(Queue queue, int place, int placeSaid) {
            int man = queue.manAt(place);
            if (man < 0 || length == 0) {
                return ERROR;
            }
            facts[0] = queue.told.men[man].age;
            facts[1] = queue.told.men[man].far;
            facts[2] = queue.told.men[man].bucket;
            facts[3] = queue.coin[man];
            facts[4] = placeSaid;
            facts[5] = queue.waited(man);
            int top = 0;
            for (int i = 0; i < length; i++) {
                int knot = code[i];
                if (knot >= -WAIT) {
                    stack[top] = knot >= 0 ? knot : facts[-knot - AGE];
                    top++;
                } else if (knot == -NOT && top > 0) {
                    stack[top - 1] = stack[top - 1] == 0 ? 1 : 0;
                } else if (top > 1) {
                    top--;
                    long result = work(-knot, stack[top - 1], stack[top]);
                    if (result > GREATEST || result < -GREATEST) {
                        return ERROR;
                    }
                    stack[top - 1] = result;
                }
            }
            return top == 1 ? stack[0] : ERROR;
        }

        private static long work(int sign, long a, long b) {
            switch (sign) {
                case PLUS: return a + b;
                case MINUS: return a - b;
                case TIMES:
                    // a product of two may be beyond what a long holds
                    long most = a == 0 ? GREATEST : GREATEST / (a < 0 ? -a : a);
                    return b > most || b < -most ? ERROR : a * b;
                case BY: return b == 0 ? ERROR : a / b;
                case LESS: return a < b ? 1 : 0;
                case LESS_OR_LIKE: return a <= b ? 1 : 0;
                case LIKE: return a == b ? 1 : 0;
                case UNLIKE: return a != b ? 1 : 0;
                case MORE_OR_LIKE: return a >= b ? 1 : 0;
                case MORE: return a > b ? 1 : 0;
                case AND: return a != 0 && b != 0 ? 1 : 0;
                case OR: return a != 0 || b != 0 ? 1 : 0;
                default: return ERROR;
            }
        }
    }

    /** The tape, and the tokens of a text at its start, one at a time. */
    private static final class Tokens {
        private static final int BEYOND_ALL = 1000000;

        private final byte[] tape = new byte[TAPE_BYTES];
        int many = 0;
        private int length = 0;
        private int at = 0;
        int kind;
        int place;
        /** Of a NUMBER what it is, of a word its letters, five bits each. */
        int value;

        void put(int four) {
            for (int shift = 24; shift >= 0; shift -= 8) {
                if (many < TAPE_BYTES) {
                    tape[many] = (byte) (four >> shift);
                    many++;
                }
            }
        }

        void begin(int n) {
            length = Math.min(n, TAPE_BYTES);
            at = 0;
            advance();
        }

        void advance() {
            while (at < length && (peek() == ' ' || peek() == 10)) {
                at++;
            }
            place = at;
            value = 0;
            int sign = peek();
            if (sign == NONE) {
                kind = END;
            } else if (isLetter(sign)) {
                readWord();
            } else if (isDigit(sign)) {
                readNumber();
            } else {
                at++;
                kind = signKind(sign);
            }
        }

        private int peek() {
            return at < length ? tape[at] & 255 : NONE;
        }

        private static boolean isLetter(int sign) {
            return sign >= 'a' && sign <= 'z';
        }

        private static boolean isDigit(int sign) {
            return sign >= '0' && sign <= '9';
        }

        private void readNumber() {
            kind = NUMBER;
            while (at < length && isDigit(peek())) {
                value = Math.min(value * 10 + peek() - '0', BEYOND_ALL);
                at++;
            }
        }

        private void readWord() {
            int letters = 0;
            while (at < length && isLetter(peek())) {
                if (letters < MOST_LETTERS) {
                    value |= (peek() - 'a' + 1) << 5 * (MOST_LETTERS - 1 - letters);
                }
                letters++;
                at++;
            }
            kind = letters > MOST_LETTERS ? WRONG : wordKind();
        }

        private int wordKind() {
            for (int word = 0; word < LANGUAGE_WORDS; word++) {
                int letters = 0;
                for (int i = 0; i < MOST_LETTERS; i++) {
                    char sign = WORDS.charAt(word * MOST_LETTERS + i);
                    letters = letters << 5 | (sign == ' ' ? 0 : sign - 'a' + 1);
                }
                if (letters == value) {
                    return word;
                }
            }
            return NAME;
        }

        private int signKind(int sign) {
            switch (sign) {
                case ';': return SEMICOLON;
                case '(': return OPEN;
                case ')': return CLOSE;
                case '+': return PLUS;
                case '-': return MINUS;
                case '*': return TIMES;
                case '/': return BY;
                case '=': return LIKE;
                case '<': return belongs('=') ? LESS_OR_LIKE : belongs('>') ? UNLIKE : LESS;
                case '>': return belongs('=') ? MORE_OR_LIKE : MORE;
                default: return WRONG;
            }
        }

        private boolean belongs(int sign) {
            if (peek() != sign) {
                return false;
            }
            at++;
            return true;
        }
    }

    /** Reads a text into what it tells, up to its first fault. */
    private static final class Reader {
        private static final int MOST_OPEN = 8;
        private static final int GREATEST_NUMBER = 9999;

        final Tokens tokens = new Tokens();
        private Told told;
        private Law law;
        /** The words, as bits, that may stand once and did. */
        private int heard = 0;
        int fault = 0;
        int place = NONE;

        boolean read(int length, Told into) {
            told = into;
            told.clear();
            heard = 0;
            fault = 0;
            place = NONE;
            tokens.begin(length);
            for (int i = 0; i <= length && tokens.kind != END && fault == 0; i++) {
                switch (tokens.kind) {
                    case MAN: readMan(); break;
                    case GUARD: readGuard(); break;
                    case POWER: readPower(); break;
                    case WELL:
                        once();
                        told.water = number(0, 999);
                        told.rate = number(1, 9);
                        break;
                    case LEVIES: once(); told.levies = number(1, 30); break;
                    case EAR: once(); told.ear = number(1, 7); break;
                    case MUTTER: once(); told.mutter = number(0, 99); break;
                    case SEED: once(); told.seed = number(0, 99999); break;
                    case LAW: readLaw(); break;
                    default: refuse(WRONG_TOKEN);
                }
                take(SEMICOLON);
                told.lines++;
            }
            return fault == 0;
        }

        /** Only the first fault counts; behind it no token fits any more. */
        private void refuse(int kind) {
            if (fault == 0) {
                fault = kind;
                place = tokens.place;
            }
            tokens.kind = WRONG;
        }

        private void take(int kind) {
            if (tokens.kind == kind) {
                tokens.advance();
            } else {
                refuse(WRONG_TOKEN);
            }
        }

        private int number(int least, int most) {
            int value = tokens.value;
            if (tokens.kind != NUMBER) {
                refuse(WRONG_TOKEN);
            } else if (value < least || value > most) {
                refuse(TOO_MUCH);
            } else {
                tokens.advance();
            }
            return value;
        }

        private void once() {
            int bit = 1 << tokens.kind;
            if ((heard & bit) != 0) {
                refuse(TOLD_ALREADY);
            } else {
                heard |= bit;
                tokens.advance();
            }
        }

        private void readMan() {
            if (told.manyMen >= MOST_MEN) {
                refuse(TOO_MUCH);
                return;
            }
            Man man = told.men[told.manyMen];
            tokens.advance();
            man.name = tokens.value;
            if (tokens.kind == NAME && told.find(man.name) != NONE) {
                refuse(TOLD_ALREADY);
            }
            take(NAME);
            man.age = number(1, 99);
            man.far = number(0, 9);
            man.patience = number(1, 99);
            man.bucket = number(1, 30);
            man.coin = number(0, 99);
            man.bribe = number(0, 99);
            man.comes = number(0, LAST_TO_COME);
            man.leans = tokens.kind == YES;
            if (man.leans) {
                tokens.advance();
            }
            man.guards = NONE;
            told.manyMen++;
        }

        private void readGuard() {
            tokens.advance();
            int guard = toldMan();
            if (guard == NONE) {
                return;
            }
            if (told.men[guard].guards != NONE) {
                refuse(TOLD_ALREADY);
            }
            take(NAME);
            int guarded = toldMan();
            if (guarded == guard) {
                refuse(GUARDS_HIMSELF);
            }
            take(NAME);
            told.men[guard].guards = guarded;
        }

        private int toldMan() {
            if (tokens.kind != NAME) {
                refuse(WRONG_TOKEN);
                return NONE;
            }
            int man = told.find(tokens.value);
            if (man == NONE) {
                refuse(UNTOLD_MAN);
            }
            return man;
        }

        private void readPower() {
            tokens.advance();
            int power = tokens.kind;
            if (power < CROWN || power > TAX) {
                refuse(WRONG_TOKEN);
                return;
            }
            once();
            told.powers[power - CROWN] = number(0, PLACES - 1);
        }

        private void readLaw() {
            tokens.advance();
            int rule = tokens.kind;
            if (rule < LEVY || rule > NEED) {
                refuse(WRONG_TOKEN);
                return;
            }
            once();
            law = told.laws[rule - LEVY];
            readEither(0);
        }

        private void knot() {
            if (told.knots >= MOST_KNOTS) {
                refuse(TOO_MUCH);
            } else {
                told.knots++;
                tokens.advance();
            }
        }

        private void readEither(int open) {
            readBoth(open);
            for (int i = 0; i < MOST_KNOTS && tokens.kind == OR; i++) {
                knot();
                readBoth(open);
                law.add(-OR);
            }
        }

        private void readBoth(int open) {
            readNegated(open);
            for (int i = 0; i < MOST_KNOTS && tokens.kind == AND; i++) {
                knot();
                readNegated(open);
                law.add(-AND);
            }
        }

        private void readNegated(int open) {
            int nots = 0;
            while (nots <= MOST_KNOTS && tokens.kind == NOT) {
                knot();
                nots++;
            }
            readComparison(open);
            for (int i = 0; i < nots; i++) {
                law.add(-NOT);
            }
        }

        private void readComparison(int open) {
            readSum(open);
            int sign = tokens.kind;
            if (sign >= LESS && sign <= MORE) {
                knot();
                readSum(open);
                law.add(-sign);
            }
        }

        private void readSum(int open) {
            readProduct(open);
            for (int i = 0; i < MOST_KNOTS && (tokens.kind == PLUS || tokens.kind == MINUS); i++) {
                int sign = tokens.kind;
                knot();
                readProduct(open);
                law.add(-sign);
            }
        }

        private void readProduct(int open) {
            readPart(open);
            for (int i = 0; i < MOST_KNOTS && (tokens.kind == TIMES || tokens.kind == BY); i++) {
                int sign = tokens.kind;
                knot();
                readPart(open);
                law.add(-sign);
            }
        }

        private void readPart(int open) {
            int kind = tokens.kind;
            if (kind == OPEN && open >= MOST_OPEN) {
                refuse(TOO_MUCH);
            } else if (kind == OPEN) {
                tokens.advance();
                readEither(open + 1);
                take(CLOSE);
            } else if (kind == NUMBER && tokens.value > GREATEST_NUMBER) {
                refuse(TOO_MUCH);
            } else if (kind == NUMBER) {
                law.add(tokens.value);
                knot();
            } else if (kind >= AGE && kind <= WAIT) {
                law.add(-kind);
                knot();
            } else {
                refuse(WRONG_TOKEN);
            }
        }
    }

    /** The men as they are at one time, and how a minute goes by. */
    private static final class Queue {
        Told told;
        int manner;
        int minute;
        int size;
        int water;
        int number;
        final int[] places = new int[PLACES];
        final int[] powers = new int[POWERS];
        final int[] state = new int[MOST_MEN];
        final int[] comes = new int[MOST_MEN];
        final int[] patience = new int[MOST_MEN];
        final int[] filled = new int[MOST_MEN];
        final int[] coin = new int[MOST_MEN];
        final int[] joined = new int[MOST_MEN];
        /** The minute in which one was served or out. */
        final int[] left = new int[MOST_MEN];
        final int[] kneeling = new int[MOST_MEN];
        final int[] coughed = new int[MOST_MEN];

        void start(Told text) {
            told = text;
            manner = 0;
            minute = 0;
            size = 0;
            water = text.water;
            number = text.seed;
            System.arraycopy(text.powers, 0, powers, 0, POWERS);
            for (int man = 0; man < text.manyMen; man++) {
                comes[man] = text.men[man].comes;
                patience[man] = text.men[man].patience;
                coin[man] = text.men[man].coin;
            }
            Arrays.fill(state, TO_COME);
            Arrays.fill(filled, 0);
            Arrays.fill(kneeling, 0);
            Arrays.fill(coughed, 0);
        }

        void copy(Queue other) {
            told = other.told;
            manner = other.manner;
            minute = other.minute;
            size = other.size;
            water = other.water;
            number = other.number;
            System.arraycopy(other.places, 0, places, 0, PLACES);
            System.arraycopy(other.powers, 0, powers, 0, POWERS);
            System.arraycopy(other.state, 0, state, 0, MOST_MEN);
            System.arraycopy(other.comes, 0, comes, 0, MOST_MEN);
            System.arraycopy(other.patience, 0, patience, 0, MOST_MEN);
            System.arraycopy(other.filled, 0, filled, 0, MOST_MEN);
            System.arraycopy(other.coin, 0, coin, 0, MOST_MEN);
            System.arraycopy(other.joined, 0, joined, 0, MOST_MEN);
            System.arraycopy(other.left, 0, left, 0, MOST_MEN);
            System.arraycopy(other.kneeling, 0, kneeling, 0, MOST_MEN);
            System.arraycopy(other.coughed, 0, coughed, 0, MOST_MEN);
        }

        int manAt(int place) {
            return place >= 0 && place < size ? places[place] : LACKING;
        }

        int placeOf(int man) {
            for (int place = 0; place < size; place++) {
                if (places[place] == man) {
                    return place;
                }
            }
            return NONE;
        }

        int waited(int man) {
            switch (state[man]) {
                case TO_COME: return 0;
                case IN_QUEUE: return minute - joined[man];
                default: return left[man] - joined[man];
            }
        }

        int howMany(int wanted) {
            int many = 0;
            for (int man = 0; man < told.manyMen; man++) {
                if (state[man] == wanted) {
                    many++;
                }
            }
            return many;
        }

        int allCoin() {
            int sum = 0;
            for (int man = 0; man < told.manyMen; man++) {
                sum += coin[man];
            }
            return sum;
        }

        int allCoughs() {
            int sum = 0;
            for (int man = 0; man < told.manyMen; man++) {
                sum += coughed[man];
            }
            return sum;
        }

        void append(int man) {
            if (size < PLACES) {
                places[size] = man;
                size++;
                state[man] = IN_QUEUE;
                joined[man] = minute;
            }
        }

        void remove(int place, int newState) {
            int man = manAt(place);
            if (man < 0) {
                return;
            }
            size--;
            for (int i = place; i < size; i++) {
                places[i] = places[i + 1];
            }
            state[man] = newState;
            left[man] = minute;
            kneeling[man] = 0;
            coughed[man] = 0;
        }

        void exchange(int one, int other) {
            int placeOfOne = placeOf(one);
            int placeOfOther = placeOf(other);
            if (placeOfOne >= 0 && placeOfOther >= 0) {
                places[placeOfOne] = other;
                places[placeOfOther] = one;
            }
        }

        private static int put(long value, int least, int most, int without) {
            if (value == Law.ERROR) {
                return without;
            }
            return (int) Math.max(least, Math.min(most, value));
        }

        int need() {
            return put(told.laws[NEED_LAW].value(this, 0, size), 1, 9, (size + 1) / 2);
        }

        boolean isGuarded() {
            return size > 1 && told.men[places[1]].guards == places[0];
        }

        /** The last place from which the first hears a cough. */
        int lastHeard() {
            return Math.min(told.ear, size - 1);
        }

        private boolean is(int otherwise) {
            return (manner & otherwise) != 0;
        }

        void passTo(int until) {
            for (int t = minute; t < until; t++) {
                pass();
            }
        }

        void pass() {
            welcome();
            hearCoughs();
            pour();
            levy();
            wear();
            release();
            mutter();
            minute++;
        }

        private void welcome() {
            for (int i = 0; i < told.manyMen; i++) {
                int man = nextToJoin();
                if (man == NONE) {
                    return;
                }
                append(man);
            }
        }

        private int nextToJoin() {
            int next = NONE;
            for (int man = 0; man < told.manyMen; man++) {
                if (state[man] == TO_COME && comes[man] == minute
                        && (next == NONE || joinsAhead(told.men[man], told.men[next]))) {
                    next = man;
                }
            }
            return next;
        }

        private static boolean joinsAhead(Man one, Man other) {
            return one.far < other.far || one.far == other.far && one.age > other.age;
        }

        private void hearCoughs() {
            if (is(NO_COUGHS)) {
                return;
            }
            int heard = 0;
            int last = lastHeard();
            for (int place = 1; place <= last; place++) {
                heard += coughed[places[place]];
            }
            if (heard > 0 && heard >= need() && !isGuarded()) {
                remove(0, OUT);
            }
            Arrays.fill(coughed, 0);
        }

        private void pour() {
            if (size == 0) {
                return;
            }
            int first = places[0];
            int rate = is(GREATER_RATE) ? told.rate + 1 : told.rate;
            int poured = Math.min(rate, told.men[first].bucket - filled[first]);
            if (!is(ENDLESS_WATER)) {
                poured = Math.min(poured, water);
                water -= poured;
            }
            filled[first] += poured;
        }

        private void levy() {
            int taker = manAt(powers[TAX_POWER]);
            if (is(NO_LEVY) || taker < 0 || told.levies < 1 || minute % told.levies != 0) {
                return;
            }
            for (int place = 0; place < size; place++) {
                int man = places[place];
                if (man != taker) {
                    int due = put(told.laws[LEVY_LAW].value(this, place, place), 0, 99, 1);
                    int paid = Math.min(due, coin[man]);
                    coin[man] -= paid;
                    coin[taker] += paid;
                }
            }
        }

        private void wear() {
            for (int place = 0; place < size; place++) {
                int man = places[place];
                if (kneeling[man] > 0) {
                    kneeling[man]--;
                } else if (place > 0) {
                    patience[man] -= put(told.laws[WEAR_LAW].value(this, place, place), 0, 9, 1);
                }
            }
        }

        private void release() {
            if (size > 0 && filled[places[0]] >= told.men[places[0]].bucket) {
                remove(0, SERVED);
            }
            if (is(ENDLESS_PATIENCE)) {
                return;
            }
            for (int place = size - 1; place > 0; place--) {
                if (patience[places[place]] <= 0) {
                    remove(place, OUT);
                }
            }
        }

        private void mutter() {
            if (is(NO_MUTTERING) || told.mutter == 0) {
                return;
            }
            number = (int) (number * 1103515245L + 12345L & 0x7fffffffL);
            if (number / 65536 % 100 < told.mutter && size > 1) {
                remove(size - 1, OUT);
            }
        }
    }

    /** The latest states that can be gone back to, in a ring. */
    private static final class Steps {
        private final Queue[] ring = new Queue[MOST_UNDONE];
        private int first = 0;
        int many = 0;

        Steps() {
            for (int i = 0; i < MOST_UNDONE; i++) {
                ring[i] = new Queue();
            }
        }

        void clear() {
            many = 0;
        }

        void remember(Queue now) {
            ring[(first + many) % MOST_UNDONE].copy(now);
            if (many < MOST_UNDONE) {
                many++;
            } else {
                first = (first + 1) % MOST_UNDONE;
            }
        }

        boolean takeBack(Queue now) {
            if (many == 0) {
                return false;
            }
            many--;
            now.copy(ring[(first + many) % MOST_UNDONE]);
            return true;
        }
    }

    /** What the wet stones tell, and by which other comings it would all be so. */
    private static final class Stones {
        private static final int MOST_WAYS = MOST_MEN * (LAST_TO_COME + 1);

        private final int[] minutes = new int[MOST_STONES];
        private final int[] places = new int[MOST_STONES];
        private final int[] men = new int[MOST_STONES];
        /** Which stone a strike strikes; NONE of a stone that is no strike. */
        private final int[] strikes = new int[MOST_STONES];
        /** Which stones are struck, as bits. */
        private int struck = 0;
        int many = 0;
        private int known = NONE;
        private boolean searched = false;
        final int[] wayMan = new int[MOST_WAYS];
        final int[] wayMinute = new int[MOST_WAYS];
        int manyWays = 0;
        private final Queue without = new Queue();
        private final Queue with = new Queue();

        void clear() {
            many = 0;
            known = NONE;
            searched = false;
        }

        int lay(int minute, int place, int man) {
            if (many >= MOST_STONES) {
                return NONE;
            }
            minutes[many] = minute;
            places[many] = place;
            men[many] = man;
            strikes[many] = NONE;
            searched = false;
            many++;
            return many - 1;
        }

        int layStrike(int stone) {
            if (stone < 0 || stone >= many || many >= MOST_STONES) {
                return NONE;
            }
            strikes[many] = stone;
            searched = false;
            many++;
            return many - 1;
        }

        boolean knowBy(int n) {
            if (n < NONE || n > many) {
                return false;
            }
            known = n;
            searched = false;
            return true;
        }

        int knownBy() {
            return known == NONE ? many : known;
        }

        /**
         * What is found is kept until a stone or what is known changes, as it is dear. Up to a man's
         * coming all goes as without him, so that part is gone through but once for each man.
         */
        void search(Told told) {
            if (searched) {
                return;
            }
            searched = true;
            manyWays = 0;
            markStruck();
            int last = lastMinute();
            for (int man = 0; man < told.manyMen; man++) {
                without.start(told);
                without.manner = AS_IT_GOES;
                without.comes[man] = NONE;
                boolean fits = true;
                for (int minute = 0; minute <= LAST_TO_COME && fits; minute++) {
                    with.copy(without);
                    with.comes[man] = minute;
                    if (fitsThrough(last)) {
                        addWay(man, minute);
                    }
                    if (minute <= last) {
                        without.pass();
                        fits = fitsBehindLast(without);
                    }
                }
            }
        }

        /** A strike is always behind what it strikes, so from the last one on it is known which count. */
        private void markStruck() {
            struck = 0;
            for (int i = knownBy() - 1; i >= 0; i--) {
                if ((struck >> i & 1) == 0 && strikes[i] != NONE) {
                    struck |= 1 << strikes[i];
                }
            }
        }

        private boolean tells(int stone) {
            return (struck >> stone & 1) == 0 && strikes[stone] == NONE;
        }

        private int lastMinute() {
            int last = NONE;
            int n = knownBy();
            for (int i = 0; i < n; i++) {
                if (tells(i)) {
                    last = Math.max(last, minutes[i]);
                }
            }
            return last;
        }

        private boolean fitsThrough(int last) {
            for (int minute = with.minute; minute <= last; minute++) {
                with.pass();
                if (!fitsBehindLast(with)) {
                    return false;
                }
            }
            return true;
        }

        private boolean fitsBehindLast(Queue queue) {
            int n = knownBy();
            for (int i = 0; i < n; i++) {
                if (tells(i) && minutes[i] == queue.minute - 1 && queue.manAt(places[i]) != men[i]) {
                    return false;
                }
            }
            return true;
        }

        private void addWay(int man, int minute) {
            if (manyWays < MOST_WAYS) {
                wayMan[manyWays] = man;
                wayMinute[manyWays] = minute;
                manyWays++;
            }
        }
    }

    /** What would be: minutes to come are gone through on copies. */
    private static final class Counsel {
        private static final int CHOICES = 4;
        private static final int TIMES_DRAWN = 10;

        private final Queue ahead = new Queue();
        private final Queue branch = new Queue();
        private final int[] oneHas = new int[CHOICES * CHOICES];
        private final int[] otherHas = new int[CHOICES * CHOICES];
        final int[] restRow = new int[CHOICES * CHOICES];
        int manyRests = 0;

        private void prepare(Queue now) {
            ahead.copy(now);
            ahead.manner = AS_IT_GOES;
        }

        int servedIn(Queue now, int man) {
            prepare(now);
            for (int t = now.minute; t < MINUTES && ahead.state[man] < SERVED; t++) {
                ahead.pass();
            }
            return ahead.state[man] == SERVED ? ahead.left[man] : LACKING;
        }

        int firstToCome(Queue now, int man, int place, int last) {
            prepare(now);
            ahead.comes[man] = NONE;
            for (int minute = now.minute; minute <= last; minute++) {
                branch.copy(ahead);
                branch.comes[man] = minute;
                branch.passTo(last + 1);
                if (branch.manAt(place) == man) {
                    return minute;
                }
                ahead.pass();
            }
            return LACKING;
        }

        int bribes(Queue now, int k, int m, int what) {
            int among = Math.min(k, now.size);
            if (among < m) {
                return LACKING;
            }
            int unlike = 0;
            for (int place = 0; place < among; place++) {
                int man = now.places[place];
                unlike |= now.told.men[man].leans ? 0 : 1 << man;
            }
            int wanted = m - (among - Integer.bitCount(unlike));
            int bestCoin = Integer.MAX_VALUE;
            int bestMen = 0;
            for (int men = 0; men < 1 << MOST_MEN; men++) {
                if ((men & ~unlike) == 0 && Integer.bitCount(men) >= wanted) {
                    int coin = price(now.told, men);
                    if (coin < bestCoin) {
                        bestCoin = coin;
                        bestMen = men;
                    }
                }
            }
            return what == 0 ? bestCoin : bestMen;
        }

        private static int price(Told told, int men) {
            int coin = 0;
            for (int man = 0; man < told.manyMen; man++) {
                if ((men >> man & 1) != 0) {
                    coin += told.men[man].bribe;
                }
            }
            return coin;
        }

        int plotters(Queue now) {
            int need = now.need();
            if (now.isGuarded() || need > now.lastHeard()) {
                return LACKING;
            }
            int men = 0;
            for (int place = 1; place <= need; place++) {
                men |= 1 << now.places[place];
            }
            return men;
        }

        void play(Queue now, int one, int other, int n) {
            int choices = Math.min(CHOICES, LAST_TO_COME - now.minute + 1);
            for (int a = 0; a < choices; a++) {
                for (int b = 0; b < choices; b++) {
                    prepare(now);
                    ahead.comes[one] = now.minute + a;
                    ahead.comes[other] = now.minute + b;
                    ahead.passTo(now.minute + n);
                    oneHas[a * CHOICES + b] = worth(one);
                    otherHas[a * CHOICES + b] = worth(other);
                }
            }
            manyRests = 0;
            for (int a = 0; a < choices; a++) {
                for (int b = 0; b < choices; b++) {
                    if (isRest(a, b, choices)) {
                        restRow[manyRests] = 100 * (now.minute + a) + now.minute + b;
                        manyRests++;
                    }
                }
            }
        }

        private int worth(int man) {
            switch (ahead.state[man]) {
                case SERVED: return 1000 - ahead.left[man];
                case IN_QUEUE: return 100 - ahead.placeOf(man);
                default: return 0;
            }
        }

        private boolean isRest(int a, int b, int choices) {
            int cell = a * CHOICES + b;
            for (int c = 0; c < choices; c++) {
                if (oneHas[c * CHOICES + b] > oneHas[cell] || otherHas[a * CHOICES + c] > otherHas[cell]) {
                    return false;
                }
            }
            return true;
        }

        int bestPlace(Queue now, int kind, int man, int n, int what) {
            int bestPlace = 0;
            int most = NONE;
            for (int place = 0; place < PLACES; place++) {
                int minutes = minutesHeld(now, kind, place, man, n);
                if (minutes > most) {
                    most = minutes;
                    bestPlace = place;
                }
            }
            return what == 0 ? bestPlace : most;
        }

        private int minutesHeld(Queue now, int kind, int place, int man, int n) {
            prepare(now);
            ahead.powers[kind] = place;
            int minutes = 0;
            for (int i = 0; i < n; i++) {
                ahead.pass();
                if (ahead.manAt(place) == man) {
                    minutes++;
                }
            }
            return minutes;
        }

        int fairestPlace(Queue now, int kind, int n, int what) {
            int fairest = 0;
            int most = NONE;
            for (int place = 0; place < PLACES; place++) {
                int men = Integer.bitCount(holders(now, kind, place, n));
                if (men > most) {
                    most = men;
                    fairest = place;
                }
            }
            return what == 0 ? fairest : most;
        }

        private int holders(Queue now, int kind, int place, int n) {
            prepare(now);
            ahead.powers[kind] = place;
            int men = 0;
            for (int i = 0; i < n; i++) {
                ahead.pass();
                int man = ahead.manAt(place);
                men |= man < 0 ? 0 : 1 << man;
            }
            return men;
        }

        int gainers(Queue now, int place, int n) {
            prepare(now);
            branch.copy(ahead);
            for (int i = 0; i < place; i++) {
                branch.remove(0, OUT);
            }
            Arrays.fill(branch.comes, NONE);
            ahead.passTo(now.minute + n);
            branch.passTo(now.minute + n);
            int men = 0;
            for (int i = place; i < now.size; i++) {
                int man = now.places[i];
                if (branch.state[man] == SERVED
                        && (ahead.state[man] != SERVED || branch.left[man] < ahead.left[man])) {
                    men |= 1 << man;
                }
            }
            return men;
        }

        int emptyMinutes(Queue now, int n, int what) {
            prepare(now);
            int many = 0;
            int first = LACKING;
            for (int i = 0; i < n; i++) {
                ahead.pass();
                if (ahead.size == 0) {
                    first = many == 0 ? ahead.minute - 1 : first;
                    many++;
                }
            }
            return what == 0 ? many : first;
        }

        int timesServed(Queue now, int seed, int man, int n) {
            int times = 0;
            int number = seed;
            for (int i = 0; i < TIMES_DRAWN; i++) {
                ahead.copy(now);
                ahead.manner = NO_COUGHS;
                ahead.number = number;
                ahead.passTo(now.minute + n);
                number = ahead.number;
                if (ahead.state[man] == SERVED) {
                    times++;
                }
            }
            return times;
        }

        int servedOtherwise(Queue now, int what, int man, int n) {
            prepare(now);
            switch (what) {
                case 0: ahead.manner |= NO_LEVY; break;
                case 1: ahead.manner |= ENDLESS_PATIENCE; break;
                case 2:
                    ahead.remove(ahead.placeOf(man), OUT);
                    ahead.state[man] = OUT;
                    break;
                case 3: ahead.manner |= GREATER_RATE; break;
                case 4: ahead.manner |= ENDLESS_WATER; break;
                default: Arrays.fill(ahead.comes, now.minute);
            }
            ahead.passTo(now.minute + n);
            return ahead.howMany(SERVED);
        }
    }
}
