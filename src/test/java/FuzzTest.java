import java.util.NoSuchElementException;
import java.util.Random;

/** Drawn texts and calls: the class must answer as the Oracle does. Arguments: first seed, how many runs. */
public final class FuzzTest {
    private static final long THROWS = 7000000000L;
    private static final int MOST_CALLS = 512;
    /** A text of 700 bytes, with what is asked of its fault, is the most that is called at once. */
    private static final int DEAREST = 38;
    private static final int[] EDGES = {0, 1, -1, 2, -2, 5, 7, 8, 9, 10, 15, 19, 20, 21, 23, 24, 29, 30, 31, 58, 59, 60, 61,
        99, 100, 118, 119, 120, 121, 2147483647, -2147483648};
    private static final String[] TOKENS = ("man guard power well levies ear mutter seed law crown judge tax levy wear need yes "
        + "age far bucket coin place wait and or not a b zz abcdef abcdefg ; ( ) < <= = <> >= > + - * / 0 1 7 8 9 10 30 31 59 60 "
        + "99 100 999 1000 9999 10000 99999 100000 A ! 007 00000000000000000000001 99999999999999999999").split(" ");

    private final Random random;
    private final Check check = new Check();
    private final StringBuilder trace = new StringBuilder();
    private ThirdInLine x;
    private Oracle o;
    /** How many calls the object has had: what it answers behind 512 is free. */
    private int had = 0;

    private FuzzTest(long seed) {
        random = new Random(seed);
    }

    public static void main(String[] args) {
        long first = args.length > 0 ? Long.parseLong(args[0]) : 1;
        int runs = args.length > 1 ? Integer.parseInt(args[1]) : 300;
        Check all = new Check();
        for (long seed = first; seed < first + runs; seed++) {
            all.due("run " + seed, new FuzzTest(seed).run(), true);
        }
        all.end("FuzzTest");
    }

    private boolean run() {
        begin();
        boolean right = tell(sheet());
        int calls = 40 + random.nextInt(400);
        for (int i = 0; i < calls && right && had < MOST_CALLS - DEAREST; i++) {
            right = random.nextInt(60) == 0 ? tell(random.nextBoolean() ? sheet() : spoiled(sheet())) : call();
        }
        begin();
        for (int i = 0; i < 6 && right; i++) {
            right = tell(spoiled(sheet()));
        }
        if (!right) {
            System.out.println(trace);
        }
        return right;
    }

    private void begin() {
        x = new ThirdInLine();
        o = new Oracle();
        had = 0;
        trace.append("a new object\n");
    }

    private boolean same(String what, long got, long want) {
        had++;
        trace.append(what).append(" -> ").append(want).append('\n');
        check.due(what, got, want);
        return got == want;
    }

    private boolean tell(String text) {
        if (text.length() > 700) {
            text = text.substring(0, 700);
        }
        byte[] b = Check.bytes(text);
        boolean right = true;
        for (int at = 0; at < b.length && right; at += 20) {
            int[] f = new int[5];
            for (int i = 0; i < 5; i++) {
                f[i] = Check.four(b, at + 4 * i);
            }
            right = same("feed", x.feed(f[0], f[1], f[2], f[3], f[4]), o.feed(f[0], f[1], f[2], f[3], f[4]));
        }
        int n = random.nextInt(40) == 0 ? random.nextInt(710) - 5 : b.length;
        right = right && same("text " + n + " of " + text, x.text(n), o.text(n));
        return right && same("fault(0)", x.fault(0), o.fault(0)) && same("fault(1)", x.fault(1), o.fault(1));
    }

    private int below(int n) {
        return random.nextInt(n);
    }

    private String sheet() {
        StringBuilder s = new StringBuilder();
        int men = below(4) == 0 ? below(4) : 3 + below(6);
        int soon = below(3) == 0 ? 60 : 1 + below(8);
        boolean slow = below(2) == 0;
        int full = 1 + below(30);
        int least = slow ? 20 : 0;
        int worn = slow ? 50 + below(30) : 1 + below(99);
        for (int i = 0; i < men; i++) {
            s.append("man ").append((char) ('b' + i)).append(i % 3 == 0 ? "o" : "").append(' ').append(1 + below(99)).append(' ')
                .append(below(10)).append(' ').append(1 + least + below(worn)).append(' ').append(1 + (slow ? below(30) : below(full))).append(' ').append(below(100))
                .append(' ').append(below(4) == 0 ? 0 : below(100)).append(' ').append(below(soon)).append(below(3) == 0 ? " yes" : "").append(";");
        }
        for (int i = 0; i < men; i++) {
            int j = below(Math.max(men, 1));
            if (below(3) == 0 && i != j) {
                s.append("guard ").append(name(i)).append(' ').append(name(j)).append(';');
            }
        }
        String[] kinds = {"crown", "judge", "tax"};
        for (String kind : kinds) {
            s.append(below(3) == 0 ? "power " + kind + " " + below(below(2) == 0 ? 8 : 3) + ";" : "");
        }
        s.append(below(2) == 0 ? "well " + below(below(2) == 0 ? 1000 : 60) + " " + (1 + below(slow ? 2 : 9)) + ";\n" : "");
        s.append(below(2) == 0 ? "levies " + (1 + below(below(2) == 0 ? 30 : 4)) + ";" : "");
        s.append(below(2) == 0 ? "ear " + (1 + below(7)) + ";" : "");
        s.append(below(2) == 0 ? "mutter " + below(100) + ";" : "");
        s.append(below(2) == 0 ? "seed " + below(100000) + ";" : "");
        String[] rules = {"levy", "wear", "need"};
        for (String rule : rules) {
            s.append(slow && rule.equals("wear") ? "law wear wait/(2+far);" : below(2) == 0 ? "law " + rule + " " + either(2 + below(2)) + ";" : "");
        }
        return s.toString();
    }

    private static String name(int i) {
        return (char) ('b' + i) + (i % 3 == 0 ? "o" : "");
    }

    private String either(int depth) {
        switch (below(8)) {
            case 0: return either(depth - 1 < 0 ? 0 : depth - 1) + " or " + compared(depth);
            case 1: return compared(depth) + " and not " + compared(depth);
            case 2: return "not not " + compared(depth);
            default: return compared(depth);
        }
    }

    private String compared(int depth) {
        String[] signs = {"<", "<=", "=", "<>", ">=", ">"};
        return below(3) == 0 ? sum(depth) + signs[below(6)] + sum(depth) : sum(depth);
    }

    private String sum(int depth) {
        String[] signs = {"+", "-", "*", "/", " * ", "/ "};
        StringBuilder s = new StringBuilder(part(depth));
        for (int i = below(3); i > 0; i--) {
            s.append(signs[below(6)]).append(part(depth));
        }
        return s.toString();
    }

    private String part(int depth) {
        String[] names = {"age", "far", "bucket", "coin", "place", "wait"};
        switch (below(6)) {
            case 0: return depth > 0 ? "(" + either(depth - 1) + ")" : "1";
            case 1: return String.valueOf(below(10000));
            case 2: return String.valueOf(below(4));
            default: return names[below(6)];
        }
    }

    /** A few places of a text are made otherwise: most get a fault, some don't. */
    private String spoiled(String text) {
        StringBuilder s = new StringBuilder(text);
        for (int i = 1 + below(3); i > 0; i--) {
            int at = below(s.length() + 1);
            switch (below(7)) {
                case 0: s.setLength(at); break;
                case 1: s.insert(at, (char) below(256)); break;
                case 2: s.insert(at, " " + TOKENS[below(TOKENS.length)] + " "); break;
                case 3: s.delete(at, Math.min(s.length(), at + 1 + below(3))); break;
                case 4: s.append("man q 1 0 1 1 0 0 ").append(TOKENS[below(TOKENS.length)]).append(";"); break;
                case 5: s.append("law ").append(TOKENS[12 + below(3)]).append(' ').append(noise()).append(';'); break;
                default: s.append(TOKENS[below(TOKENS.length)]).append(' ').append(TOKENS[below(TOKENS.length)]).append(';');
            }
        }
        return s.toString();
    }

    private String noise() {
        StringBuilder s = new StringBuilder();
        switch (below(4)) {
            case 0:
                s.append("(".repeat(6 + below(5))).append("1").append(")".repeat(6 + below(5)));
                break;
            case 1:
                for (int i = below(40); i > 0; i--) {
                    s.append("1+");
                }
                s.append("far").append(below(2) == 0 ? "" : " and age");
                break;
            case 2:
                s.append("not ".repeat(below(70))).append("1");
                break;
            default:
                for (int i = below(9); i >= 0; i--) {
                    s.append(TOKENS[16 + below(TOKENS.length - 16)]).append(below(2) == 0 ? " " : "");
                }
        }
        return s.toString();
    }

    /** Mostly a number below n, now and then an edge. */
    private int arg(int n) {
        return below(14) == 0 ? EDGES[below(EDGES.length)] : below(Math.max(n, 1));
    }

    private int aMan() {
        return arg(o.count(0));
    }

    private int some() {
        return below(9) == 0 ? EDGES[below(EDGES.length)] : 1 + below(60);
    }

    private boolean call() {
        int a = aMan();
        int b = aMan();
        int n = some();
        int two = arg(2);
        int kind = arg(3);
        int place = arg(below(2) == 0 ? 8 : 3);
        switch (below(40)) {
            case 0: return same("named", x.named(a << 25), o.named(a << 25)) & same("named", x.named(2 + b << 25 | 15 << 20), o.named(2 + b << 25 | 15 << 20));
            case 1: case 2: case 3: return looks(a);
            case 4: return same("stands " + place, x.stands(place), o.stands(place));
            case 5: return same("holder " + kind, x.holder(kind), o.holder(kind));
            case 6: return same("law " + kind + " " + a, x.law(kind, a), o.law(kind, a));
            case 7: case 8: case 9: {
                int g = below(30) == 0 ? EDGES[below(EDGES.length)] : below(4);
                return same("go " + g, x.go(g), o.go(g));
            }
            case 10: return same("join " + a, x.join(a), o.join(a));
            case 11: return same("out " + a, x.out(a) ? 1 : 0, o.out(a) ? 1 : 0);
            case 12: {
                int coin = arg(20);
                return same("swap " + a + " " + b + " " + coin, x.swap(a, b, coin) ? 1 : 0, o.swap(a, b, coin) ? 1 : 0);
            }
            case 13: {
                int k = arg(22);
                return same("kneel " + a + " " + k, x.kneel(a, k) ? 1 : 0, o.kneel(a, k) ? 1 : 0);
            }
            case 14: case 15: return same("cough " + a, x.cough(a) ? 1 : 0, o.cough(a) ? 1 : 0) & same("cough " + b, x.cough(b) ? 1 : 0, o.cough(b) ? 1 : 0);
            case 16: return same("move " + kind + " " + place, x.move(kind, place) ? 1 : 0, o.move(kind, place) ? 1 : 0);
            case 17: {
                int m = arg(o.count(2) + 1);
                return same("was " + kind + " " + m, x.was(kind, m), o.was(kind, m));
            }
            case 18: return same("ruled " + a + " " + kind, x.ruled(a, kind), o.ruled(a, kind));
            case 19: return same("served " + a, x.served(a), o.served(a));
            case 20: {
                int m = below(3) == 0 ? arg(120) : o.count(2) + below(12);
                return same("coming " + a + " " + place + " " + m, x.coming(a, place, m), o.coming(a, place, m));
            }
            case 21: case 22: {
                int k = arg(9);
                int m = arg(k < 1 || k > 8 ? 3 : k + 1);
                return same("decree " + k + " " + m + " " + two, x.decree(k, m, two), o.decree(k, m, two));
            }
            case 23: return same("coup", x.coup(), o.coup());
            case 24: return same("rests " + a + " " + b + " " + n, x.rests(a, b, n), o.rests(a, b, n));
            case 25: {
                int k = arg(5);
                return same("rest " + a + " " + b + " " + n + " " + k, x.rest(a, b, n, k), o.rest(a, b, n, k));
            }
            case 26: return same("best " + kind + " " + a + " " + n + " " + two, x.best(kind, a, n, two), o.best(kind, a, n, two));
            case 27: return same("fairest " + kind + " " + n + " " + two, x.fairest(kind, n, two), o.fairest(kind, n, two));
            case 28: return same("gain " + place + " " + n, x.gain(place, n), o.gain(place, n));
            default: return laterCall(a, n, two, place);
        }
    }

    private boolean laterCall(int a, int n, int two, int place) {
        switch (below(14)) {
            case 0: case 1: return aStone(a, place);
            case 2: {
                int s = arg(o.count(8));
                return same("strike " + s, x.strike(s), o.strike(s));
            }
            case 3: {
                int k = below(3) == 0 ? -1 : arg(o.count(8) + 1);
                return same("known " + k, x.known(k) ? 1 : 0, o.known(k) ? 1 : 0);
            }
            case 4: return below(3) != 0 || same("came", x.came(), o.came());
            case 5: {
                int k = arg(below(2) == 0 ? 480 : 60);
                return below(3) != 0 || same("one " + k + " " + two, x.one(k, two), o.one(k, two));
            }
            case 6: return same("empty " + n + " " + two, x.empty(n, two), o.empty(n, two));
            case 7: {
                int seed = below(3) == 0 ? random.nextInt() : arg(100000);
                return same("chance " + seed + " " + a + " " + n, x.chance(seed, a, n), o.chance(seed, a, n));
            }
            case 8: case 9: {
                int what = arg(6);
                int i = below(8) == 0 ? arg(8) : what == 2 ? a : 0;
                return same("tried " + what + " " + i + " " + (n - 1), x.tried(what, i, n - 1), o.tried(what, i, n - 1));
            }
            case 10: return same("undo", x.undo(), o.undo());
            case 11: return same("keep", x.keep(), o.keep());
            case 12: return below(4) != 0 || same("back", x.back(), o.back());
            default: return counts();
        }
    }

    /** Most stones tell what is so from the text on, or nearly, so that some ways are left. */
    private boolean aStone(int a, int place) {
        int minute = arg(60);
        int man = below(4) == 0 ? -1 : a;
        return same("stone " + minute + " " + place + " " + man, x.stone(minute, place, man), o.stone(minute, place, man));
    }

    private boolean looks(int man) {
        boolean right = true;
        for (int what = -1; what <= 11; what++) {
            right &= same("look " + man + " " + what, looked(true, man, what), looked(false, man, what));
        }
        return right;
    }

    private long looked(boolean own, int man, int what) {
        try {
            return own ? x.look(man, what) : o.look(man, what);
        } catch (IndexOutOfBoundsException e) {
            return THROWS;
        } catch (NoSuchElementException e) {
            return THROWS + 1;
        }
    }

    private boolean counts() {
        boolean right = true;
        for (int what = -1; what <= 15; what++) {
            right &= same("count " + what, x.count(what), o.count(what));
        }
        return right;
    }
}
