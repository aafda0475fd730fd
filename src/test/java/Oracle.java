import java.math.BigInteger;
import java.util.ArrayList;
import java.util.Arrays;
import java.util.Collections;
import java.util.HashMap;
import java.util.List;
import java.util.Map;
import java.util.NoSuchElementException;

/**
 * The document once more, told as plainly as can be and in no hurry: whole worlds are copied, all is
 * worked out anew for each question, numbers are big. FuzzTest holds the class against it.
 */
final class Oracle {
    /** A fault of a text, with its place. */
    private static final class Fault extends Exception {
        private static final long serialVersionUID = 1L;
        final int kind;
        final int place;

        Fault(int kind, int place) {
            this.kind = kind;
            this.place = place;
        }
    }

    /** Thrown by an expression that has no value. */
    private static final class Trouble extends Exception {
        private static final long serialVersionUID = 1L;
    }

    private static final class Person {
        String name;
        int[] n = new int[7];
        boolean yes;
        int guards = -1;
    }

    /** A knot of an expression's tree. */
    private static final class Node {
        final String sign;
        final Node a;
        final Node b;

        Node(String sign, Node a, Node b) {
            this.sign = sign;
            this.a = a;
            this.b = b;
        }

        BigInteger value(Map<String, Long> names) throws Trouble {
            if (Character.isDigit(sign.charAt(0))) {
                return new BigInteger(sign);
            }
            if (names.containsKey(sign)) {
                return BigInteger.valueOf(names.get(sign));
            }
            BigInteger x = a.value(names);
            BigInteger y = b == null ? null : b.value(names);
            BigInteger r;
            switch (sign) {
                case "not": r = truth(x.signum() == 0); break;
                case "and": r = truth(x.signum() != 0 && y.signum() != 0); break;
                case "or": r = truth(x.signum() != 0 || y.signum() != 0); break;
                case "<": r = truth(x.compareTo(y) < 0); break;
                case "<=": r = truth(x.compareTo(y) <= 0); break;
                case "=": r = truth(x.compareTo(y) == 0); break;
                case "<>": r = truth(x.compareTo(y) != 0); break;
                case ">=": r = truth(x.compareTo(y) >= 0); break;
                case ">": r = truth(x.compareTo(y) > 0); break;
                case "+": r = x.add(y); break;
                case "-": r = x.subtract(y); break;
                case "*": r = x.multiply(y); break;
                case "/":
                    if (y.signum() == 0) {
                        throw new Trouble();
                    }
                    r = x.divide(y);
                    break;
                default: throw new IllegalStateException(sign);
            }
            if (r.abs().compareTo(BigInteger.TEN.pow(12)) > 0) {
                throw new Trouble();
            }
            return r;
        }

        private static BigInteger truth(boolean b) {
            return b ? BigInteger.ONE : BigInteger.ZERO;
        }
    }

    /** A text's content. */
    private static final class Text {
        final List<Person> men = new ArrayList<>();
        final Map<String, Integer> n = new HashMap<>();
        final Map<String, Node> laws = new HashMap<>();
        int lines;
        int knots;

        Text() {
            Object[] without = {"crown", 0, "judge", 1, "tax", 2, "water", 200, "rate", 2, "levies", 10, "ear", 3, "mutter", 0, "seed", 0};
            for (int i = 0; i < without.length; i += 2) {
                n.put((String) without[i], (Integer) without[i + 1]);
            }
        }

        int find(String name) {
            for (int i = 0; i < men.size(); i++) {
                if (men.get(i).name.equals(name)) {
                    return i;
                }
            }
            return -1;
        }
    }

    private static final List<String> LANGUAGE = Arrays.asList(("man guard power well levies ear mutter seed law crown judge tax "
        + "levy wear need yes age far bucket coin place wait and or not").split(" "));

    /** Reads by tokens that are all cut first; the last one is "" at the length. */
    private static final class Parser {
        final List<String> tokens = new ArrayList<>();
        final List<Integer> starts = new ArrayList<>();
        int at = 0;
        Text t = new Text();
        List<String> told = new ArrayList<>();

        Parser(String s) {
            int i = 0;
            while (i < s.length()) {
                char c = s.charAt(i);
                int j = i + 1;
                if (c == ' ' || c == '\n') {
                    i++;
                    continue;
                }
                if (c >= 'a' && c <= 'z') {
                    while (j < s.length() && s.charAt(j) >= 'a' && s.charAt(j) <= 'z') {
                        j++;
                    }
                } else if (c >= '0' && c <= '9') {
                    while (j < s.length() && s.charAt(j) >= '0' && s.charAt(j) <= '9') {
                        j++;
                    }
                } else if (j < s.length() && (s.startsWith("<=", i) || s.startsWith("<>", i) || s.startsWith(">=", i))) {
                    j++;
                }
                tokens.add(s.substring(i, j));
                starts.add(i);
                i = j;
            }
            tokens.add("");
            starts.add(s.length());
        }

        String now() {
            return tokens.get(at);
        }

        Fault fault(int kind) {
            return new Fault(kind, starts.get(at));
        }

        boolean is(String... some) {
            return Arrays.asList(some).contains(now());
        }

        void must(String one) throws Fault {
            if (!is(one)) {
                throw fault(1);
            }
            at++;
        }

        String word() throws Fault {
            if (!now().matches("[a-z]{1,6}") || LANGUAGE.contains(now())) {
                throw fault(1);
            }
            return now();
        }

        int number(int least, int most) throws Fault {
            if (!now().matches("[0-9]+")) {
                throw fault(1);
            }
            BigInteger b = new BigInteger(now());
            if (b.compareTo(BigInteger.valueOf(least)) < 0 || b.compareTo(BigInteger.valueOf(most)) > 0) {
                throw fault(2);
            }
            at++;
            return b.intValue();
        }

        void first(String... some) throws Fault {
            if (!is(some)) {
                throw fault(1);
            }
            if (told.contains(now())) {
                throw fault(3);
            }
            told.add(now());
            at++;
        }

        Text all() throws Fault {
            while (at < tokens.size() - 1) {
                line();
                must(";");
                t.lines++;
            }
            return t;
        }

        void line() throws Fault {
            String w = now();
            switch (w) {
                case "man": man(); return;
                case "guard": guard(); return;
                case "power":
                    at++;
                    String kind = now();
                    first("crown", "judge", "tax");
                    t.n.put(kind, number(0, 7));
                    return;
                case "well":
                    first("well");
                    t.n.put("water", number(0, 999));
                    t.n.put("rate", number(1, 9));
                    return;
                case "levies": first(w); t.n.put(w, number(1, 30)); return;
                case "ear": first(w); t.n.put(w, number(1, 7)); return;
                case "mutter": first(w); t.n.put(w, number(0, 99)); return;
                case "seed": first(w); t.n.put(w, number(0, 99999)); return;
                case "law":
                    at++;
                    String rule = now();
                    first("levy", "wear", "need");
                    t.laws.put(rule, e(0));
                    return;
                default: throw fault(1);
            }
        }

        void man() throws Fault {
            if (t.men.size() == 8) {
                throw fault(2);
            }
            at++;
            Person p = new Person();
            p.name = word();
            if (t.find(p.name) >= 0) {
                throw fault(3);
            }
            at++;
            int[][] ranges = {{1, 99}, {0, 9}, {1, 99}, {1, 30}, {0, 99}, {0, 99}, {0, 59}};
            for (int i = 0; i < 7; i++) {
                p.n[i] = number(ranges[i][0], ranges[i][1]);
            }
            if (is("yes")) {
                p.yes = true;
                at++;
            }
            t.men.add(p);
        }

        void guard() throws Fault {
            at++;
            int a = t.find(word());
            if (a < 0) {
                throw fault(4);
            }
            if (t.men.get(a).guards >= 0) {
                throw fault(3);
            }
            at++;
            int b = t.find(word());
            if (b < 0) {
                throw fault(4);
            }
            if (a == b) {
                throw fault(5);
            }
            at++;
            t.men.get(a).guards = b;
        }

        String knot() throws Fault {
            if (t.knots == 64) {
                throw fault(2);
            }
            t.knots++;
            return tokens.get(at++);
        }

        Node e(int open) throws Fault {
            Node x = a(open);
            while (is("or")) {
                x = new Node(knot(), x, a(open));
            }
            return x;
        }

        Node a(int open) throws Fault {
            Node x = b(open);
            while (is("and")) {
                x = new Node(knot(), x, b(open));
            }
            return x;
        }

        Node b(int open) throws Fault {
            return is("not") ? new Node(knot(), b(open), null) : c(open);
        }

        Node c(int open) throws Fault {
            Node x = s(open);
            return is("<", "<=", "=", "<>", ">=", ">") ? new Node(knot(), x, s(open)) : x;
        }

        Node s(int open) throws Fault {
            Node x = t(open);
            while (is("+", "-")) {
                x = new Node(knot(), x, t(open));
            }
            return x;
        }

        Node t(int open) throws Fault {
            Node x = p(open);
            while (is("*", "/")) {
                x = new Node(knot(), x, p(open));
            }
            return x;
        }

        Node p(int open) throws Fault {
            if (is("(")) {
                if (open == 8) {
                    throw fault(2);
                }
                at++;
                Node x = e(open + 1);
                must(")");
                return x;
            }
            if (is("age", "far", "bucket", "coin", "place", "wait")) {
                return new Node(knot(), null, null);
            }
            int before = at;
            int n = number(0, 9999);
            at = before;
            knot();
            return new Node(String.valueOf(n), null, null);
        }
    }

    /** One man as he is now. */
    private static final class Man {
        Person told;
        int comes;
        int state;
        int patience;
        int has;
        int coin;
        int joined;
        int left;
        int kneels;
        boolean coughed;
    }

    /** All as it is at one time. */
    private static final class World {
        Text t;
        int minute;
        int water;
        long number;
        int[] powers;
        List<Integer> q = new ArrayList<>();
        List<Man> men = new ArrayList<>();
        List<int[]> past = new ArrayList<>();
        boolean coughs = true;
        boolean mutters = true;
        boolean levied = true;
        boolean patient = false;
        boolean wet = false;
        int faster = 0;

        World(Text text) {
            t = text;
            water = t.n.get("water");
            number = t.n.get("seed");
            powers = new int[] {t.n.get("crown"), t.n.get("judge"), t.n.get("tax")};
            for (Person p : t.men) {
                Man m = new Man();
                m.told = p;
                m.comes = p.n[6];
                m.patience = p.n[2];
                m.coin = p.n[4];
                men.add(m);
            }
        }

        World copy() {
            World w = new World(t);
            w.minute = minute;
            w.water = water;
            w.number = number;
            w.powers = powers.clone();
            w.q = new ArrayList<>(q);
            w.past = new ArrayList<>(past);
            for (int i = 0; i < men.size(); i++) {
                Man a = men.get(i);
                Man b = w.men.get(i);
                b.comes = a.comes;
                b.state = a.state;
                b.patience = a.patience;
                b.has = a.has;
                b.coin = a.coin;
                b.joined = a.joined;
                b.left = a.left;
                b.kneels = a.kneels;
                b.coughed = a.coughed;
            }
            return w;
        }

        World ahead() {
            World w = copy();
            w.coughs = false;
            w.mutters = false;
            return w;
        }

        int at(int place) {
            return place < q.size() ? q.get(place) : -2;
        }

        void join(int man) {
            q.add(man);
            men.get(man).state = 1;
            men.get(man).joined = minute;
        }

        void leave(int man, int state) {
            q.remove((Integer) man);
            Man m = men.get(man);
            m.state = state;
            m.left = minute;
            m.kneels = 0;
            m.coughed = false;
        }

        long law(String rule, int man) throws Trouble {
            Man m = men.get(man);
            Map<String, Long> names = new HashMap<>();
            names.put("age", (long) m.told.n[0]);
            names.put("far", (long) m.told.n[1]);
            names.put("bucket", (long) m.told.n[3]);
            names.put("coin", (long) m.coin);
            names.put("place", (long) (rule.equals("need") ? q.size() : q.indexOf(man)));
            names.put("wait", (long) (minute - m.joined));
            if (!t.laws.containsKey(rule)) {
                throw new Trouble();
            }
            return t.laws.get(rule).value(names).longValueExact();
        }

        int clamped(String rule, int man, int least, int most, int without) {
            try {
                long v = law(rule, man);
                return v < least ? least : v > most ? most : (int) v;
            } catch (Trouble e) {
                return without;
            }
        }

        int need() {
            return clamped("need", q.get(0), 1, 9, q.size() / 2 + q.size() % 2);
        }

        boolean guarded() {
            return q.size() >= 2 && men.get(q.get(1)).told.guards == q.get(0);
        }

        void minute() {
            List<Integer> come = new ArrayList<>();
            for (int i = 0; i < men.size(); i++) {
                if (men.get(i).state == 0 && men.get(i).comes == minute) {
                    come.add(i);
                }
            }
            come.sort((x, y) -> {
                int[] a = men.get(x).told.n;
                int[] b = men.get(y).told.n;
                return a[1] != b[1] ? a[1] - b[1] : a[0] != b[0] ? b[0] - a[0] : x - y;
            });
            come.forEach(this::join);
            coughing();
            if (!q.isEmpty()) {
                Man first = men.get(q.get(0));
                int got = Math.min(t.n.get("rate") + faster, first.told.n[3] - first.has);
                got = wet ? got : Math.min(got, water);
                water -= wet ? 0 : got;
                first.has += got;
            }
            if (levied && minute % t.n.get("levies") == 0 && powers[2] < q.size()) {
                Man taker = men.get(q.get(powers[2]));
                for (int i : q) {
                    Man m = men.get(i);
                    if (m != taker) {
                        int paid = Math.min(m.coin, clamped("levy", i, 0, 99, 1));
                        m.coin -= paid;
                        taker.coin += paid;
                    }
                }
            }
            for (int i : q) {
                Man m = men.get(i);
                if (m.kneels > 0) {
                    m.kneels--;
                } else if (i != q.get(0)) {
                    m.patience -= clamped("wear", i, 0, 9, 1);
                }
            }
            if (!q.isEmpty() && men.get(q.get(0)).has == men.get(q.get(0)).told.n[3]) {
                leave(q.get(0), 2);
            }
            for (int i : new ArrayList<>(q)) {
                if (i != q.get(0) && men.get(i).patience <= 0 && !patient) {
                    leave(i, 3);
                }
            }
            if (mutters && t.n.get("mutter") > 0) {
                number = (number * 1103515245L + 12345L) % (1L << 31);
                if ((number / 65536) % 100 < t.n.get("mutter") && q.size() >= 2) {
                    leave(q.get(q.size() - 1), 3);
                }
            }
            past.add(new int[] {at(powers[0]), at(powers[1]), at(powers[2])});
            minute++;
        }

        private void coughing() {
            if (!coughs) {
                return;
            }
            int heard = 0;
            for (int p = 1; p < q.size() && p <= t.n.get("ear"); p++) {
                heard += men.get(q.get(p)).coughed ? 1 : 0;
            }
            if (!q.isEmpty() && heard >= need() && !guarded()) {
                leave(q.get(0), 3);
            }
            men.forEach(m -> m.coughed = false);
        }

        World go(int n) {
            for (int i = 0; i < n; i++) {
                minute();
            }
            return this;
        }

        int served() {
            return (int) men.stream().filter(m -> m.state == 2).count();
        }
    }

    private byte[] tape = new byte[0];
    private Text t = new Text();
    private World w = new World(t);
    private World image = null;
    private final List<World> done = new ArrayList<>();
    private final List<int[]> stones = new ArrayList<>();
    private int knownBy = -1;
    private int fault = 0;
    private int faultPlace = -1;

    int feed(int a, int b, int c, int d, int e) {
        if (tape.length > 680) {
            return -1;
        }
        byte[] more = Arrays.copyOf(tape, tape.length + 20);
        int[] five = {a, b, c, d, e};
        for (int i = 0; i < 20; i++) {
            more[tape.length + i] = (byte) (five[i / 4] >>> 24 - 8 * (i % 4));
        }
        tape = more;
        return tape.length;
    }

    int text(int n) {
        if (n < 0 || n > tape.length) {
            return -2;
        }
        StringBuilder s = new StringBuilder();
        for (int i = 0; i < n; i++) {
            s.append((char) (tape[i] & 255));
        }
        tape = new byte[0];
        try {
            t = new Parser(s.toString()).all();
        } catch (Fault f) {
            fault = f.kind;
            faultPlace = f.place;
            return -1;
        }
        fault = 0;
        faultPlace = -1;
        w = new World(t);
        image = null;
        done.clear();
        stones.clear();
        knownBy = -1;
        return t.lines;
    }

    int fault(int what) {
        return what == 0 ? fault : what == 1 ? faultPlace : -1;
    }

    int named(int letters) {
        for (int i = 0; i < t.men.size(); i++) {
            String name = t.men.get(i).name;
            int key = 0;
            for (int j = 0; j < 6; j++) {
                key = key * 32 + (j < name.length() ? name.charAt(j) - 96 : 0);
            }
            if (key == letters) {
                return i;
            }
        }
        return -1;
    }

    private boolean man(int man) {
        return man >= 0 && man < t.men.size();
    }

    private boolean in(int man) {
        return w.q.contains(man);
    }

    private boolean toCome(int man) {
        return man(man) && w.men.get(man).state == 0;
    }

    private static boolean within(int n, int least, int most) {
        return n >= least && n <= most;
    }

    private boolean ahead(int n, int least) {
        return within(n, least, 60) && 120 - w.minute >= n;
    }

    int look(int man, int what) {
        if (!man(man)) {
            throw new IndexOutOfBoundsException();
        }
        Man m = w.men.get(man);
        switch (what) {
            case 0: return m.told.n[0];
            case 1: return m.told.n[1];
            case 2: return m.patience;
            case 3: return m.has;
            case 4: return m.coin;
            case 5: return w.q.indexOf(man);
            case 6: return m.state;
            case 7: return m.state == 0 ? 0 : m.state == 1 ? w.minute - m.joined : m.left - m.joined;
            case 8: return m.kneels;
            case 9: return m.coughed ? 1 : 0;
            case 10: return m.told.guards;
            default: throw new NoSuchElementException();
        }
    }

    int stands(int place) {
        return within(place, 0, 7) ? w.at(place) : -1;
    }

    int holder(int kind) {
        return within(kind, 0, 2) ? w.at(w.powers[kind]) : -1;
    }

    long law(int what, int man) {
        try {
            if (what == 2 && !w.q.isEmpty()) {
                return w.law("need", w.q.get(0));
            }
            if ((what == 0 || what == 1) && in(man)) {
                return w.law(what == 0 ? "levy" : "wear", man);
            }
        } catch (Trouble e) {
            return Long.MIN_VALUE;
        }
        return Long.MIN_VALUE;
    }

    int go(int n) {
        if (!within(n, 0, 120) || w.minute + n > 120) {
            return -1;
        }
        w.go(n);
        if (n > 0) {
            done.clear();
        }
        return w.minute;
    }

    private void mark() {
        done.add(w.copy());
        if (done.size() > 20) {
            done.remove(0);
        }
    }

    int join(int man) {
        if (!toCome(man)) {
            return -1;
        }
        mark();
        w.join(man);
        return w.q.size() - 1;
    }

    boolean out(int man) {
        if (!in(man)) {
            return false;
        }
        mark();
        w.leave(man, 3);
        return true;
    }

    boolean swap(int one, int other, int coin) {
        if (!in(one) || !in(other) || one == other || !within(coin, 0, 99) || w.men.get(one).coin < coin) {
            return false;
        }
        mark();
        Collections.swap(w.q, w.q.indexOf(one), w.q.indexOf(other));
        w.men.get(one).coin -= coin;
        w.men.get(other).coin += coin;
        return true;
    }

    boolean kneel(int man, int minutes) {
        if (!in(man) || !within(minutes, 1, 20) || w.men.get(man).kneels == minutes) {
            return false;
        }
        mark();
        w.men.get(man).kneels = minutes;
        return true;
    }

    boolean cough(int man) {
        if (!in(man) || w.men.get(man).coughed) {
            return false;
        }
        mark();
        w.men.get(man).coughed = true;
        return true;
    }

    boolean move(int kind, int place) {
        if (!within(kind, 0, 2) || !within(place, 0, 7) || w.powers[kind] == place) {
            return false;
        }
        mark();
        w.powers[kind] = place;
        return true;
    }

    int was(int kind, int minute) {
        return within(kind, 0, 2) && within(minute, 0, w.minute - 1) ? w.past.get(minute)[kind] : -1;
    }

    int ruled(int man, int kind) {
        if (!man(man) || !within(kind, 0, 2)) {
            return -1;
        }
        return (int) w.past.stream().filter(p -> p[kind] == man).count();
    }

    int served(int man) {
        if (!man(man)) {
            return -1;
        }
        World x = w.ahead().go(120 - w.minute);
        return x.men.get(man).state == 2 ? x.men.get(man).left : -2;
    }

    int coming(int man, int place, int minute) {
        if (!toCome(man) || !within(place, 0, 7) || !within(minute, w.minute, 119)) {
            return -1;
        }
        for (int c = w.minute; c <= minute; c++) {
            World x = w.ahead();
            x.men.get(man).comes = c;
            x.go(minute - w.minute + 1);
            if (x.at(place) == man) {
                return c;
            }
        }
        return -2;
    }

    int decree(int k, int m, int what) {
        if (!within(k, 1, 8) || !within(m, 0, k) || !within(what, 0, 1)) {
            return -1;
        }
        List<Integer> council = w.q.subList(0, Math.min(k, w.q.size()));
        int best = -1;
        int bits = -1;
        for (int set = 0; set < 256; set++) {
            int yes = 0;
            int coin = 0;
            boolean fits = true;
            for (int i = 0; i < 8; i++) {
                boolean bribed = (set & 1 << i) != 0;
                if (council.contains(i)) {
                    yes += bribed || t.men.get(i).yes ? 1 : 0;
                    coin += bribed ? t.men.get(i).n[5] : 0;
                } else {
                    fits &= !bribed;
                }
            }
            if (fits && yes >= m && (best < 0 || coin < best)) {
                best = coin;
                bits = set;
            }
        }
        return best < 0 ? -2 : what == 0 ? best : bits;
    }

    int coup() {
        if (w.q.isEmpty()) {
            return -1;
        }
        int need = w.need();
        if (w.guarded() || Math.min(w.q.size() - 1, t.n.get("ear")) < need) {
            return -2;
        }
        return w.q.subList(1, need + 1).stream().mapToInt(i -> 1 << i).sum();
    }

    private List<Integer> game(int one, int other, int n) {
        if (!toCome(one) || !toCome(other) || one == other || !within(n, 1, 60) || w.minute > 59 || w.minute + n > 120) {
            return null;
        }
        List<Integer> rests = new ArrayList<>();
        int last = Math.min(w.minute + 3, 59);
        for (int a = w.minute; a <= last; a++) {
            for (int b = w.minute; b <= last; b++) {
                boolean rest = true;
                for (int c = w.minute; c <= last; c++) {
                    rest &= worth(one, other, n, c, b)[0] <= worth(one, other, n, a, b)[0];
                    rest &= worth(one, other, n, a, c)[1] <= worth(one, other, n, a, b)[1];
                }
                if (rest) {
                    rests.add(100 * a + b);
                }
            }
        }
        return rests;
    }

    private int[] worth(int one, int other, int n, int a, int b) {
        World x = w.ahead();
        x.men.get(one).comes = a;
        x.men.get(other).comes = b;
        x.go(n);
        int[] both = {one, other};
        for (int i = 0; i < 2; i++) {
            Man m = x.men.get(both[i]);
            both[i] = m.state == 2 ? 1000 - m.left : m.state == 1 ? 100 - x.q.indexOf(both[i]) : 0;
        }
        return both;
    }

    int rests(int one, int other, int n) {
        List<Integer> game = game(one, other, n);
        return game == null ? -1 : game.size();
    }

    int rest(int one, int other, int n, int k) {
        List<Integer> game = game(one, other, n);
        return game == null || k < 0 ? -1 : k >= game.size() ? -2 : game.get(k);
    }

    private List<Integer> holders(int kind, int place, int n) {
        World x = w.ahead();
        x.powers[kind] = place;
        x.go(n);
        List<Integer> held = new ArrayList<>();
        for (int i = w.minute; i < w.minute + n; i++) {
            held.add(x.past.get(i)[kind]);
        }
        return held;
    }

    int best(int kind, int man, int n, int what) {
        if (!within(kind, 0, 2) || !man(man) || !ahead(n, 1) || !within(what, 0, 1)) {
            return -1;
        }
        int[] many = new int[8];
        int best = 0;
        for (int p = 0; p < 8; p++) {
            many[p] = Collections.frequency(holders(kind, p, n), man);
            best = many[p] > many[best] ? p : best;
        }
        return what == 0 ? best : many[best];
    }

    int fairest(int kind, int n, int what) {
        if (!within(kind, 0, 2) || !ahead(n, 1) || !within(what, 0, 1)) {
            return -1;
        }
        int[] many = new int[8];
        int best = 0;
        for (int p = 0; p < 8; p++) {
            many[p] = (int) holders(kind, p, n).stream().filter(m -> m >= 0).distinct().count();
            best = many[p] > many[best] ? p : best;
        }
        return what == 0 ? best : many[best];
    }

    int gain(int place, int n) {
        if (!within(place, 0, w.q.size() - 1) || !ahead(n, 1)) {
            return -1;
        }
        World x = w.ahead().go(n);
        World y = w.ahead();
        y.q = new ArrayList<>(y.q.subList(place, y.q.size()));
        y.men.forEach(m -> m.comes = 999);
        y.go(n);
        int bits = 0;
        for (int i : w.q.subList(place, w.q.size())) {
            int before = x.men.get(i).state == 2 ? x.men.get(i).left : 1000;
            int then = y.men.get(i).state == 2 ? y.men.get(i).left : 1000;
            bits += then < before ? 1 << i : 0;
        }
        return bits;
    }

    int stone(int minute, int place, int man) {
        if (!within(minute, 0, 59) || !within(place, 0, 7) || man != -1 && !man(man) || stones.size() == 24) {
            return -1;
        }
        stones.add(new int[] {minute, place, man == -1 ? -2 : man});
        return stones.size() - 1;
    }

    int strike(int stone) {
        if (!within(stone, 0, stones.size() - 1) || stones.size() == 24) {
            return -1;
        }
        stones.add(new int[] {stone});
        return stones.size() - 1;
    }

    boolean known(int n) {
        if (!within(n, -1, stones.size())) {
            return false;
        }
        knownBy = n;
        return true;
    }

    private boolean struck(int i, int n) {
        for (int j = i + 1; j < n; j++) {
            if (stones.get(j).length == 1 && stones.get(j)[0] == i && !struck(j, n)) {
                return true;
            }
        }
        return false;
    }

    private List<int[]> ways() {
        int n = count(9);
        List<int[]> so = new ArrayList<>();
        for (int i = 0; i < n; i++) {
            if (stones.get(i).length == 3 && !struck(i, n)) {
                so.add(stones.get(i));
            }
        }
        List<int[]> ways = new ArrayList<>();
        for (int man = 0; man < t.men.size(); man++) {
            for (int c = 0; c < 60; c++) {
                World x = new World(t).ahead();
                x.men.get(man).comes = c;
                boolean fits = true;
                for (int minute = 0; minute < 60; minute++) {
                    x.minute();
                    for (int[] s : so) {
                        fits &= s[0] != minute || x.at(s[1]) == s[2];
                    }
                }
                if (fits) {
                    ways.add(new int[] {man, c});
                }
            }
        }
        return ways;
    }

    int came() {
        return ways().size();
    }

    int one(int k, int what) {
        if (k < 0 || !within(what, 0, 1)) {
            return -1;
        }
        List<int[]> ways = ways();
        return k < ways.size() ? ways.get(k)[what] : -2;
    }

    int empty(int n, int what) {
        if (!ahead(n, 1) || !within(what, 0, 1)) {
            return -1;
        }
        World x = w.ahead();
        List<Integer> minutes = new ArrayList<>();
        for (int i = 0; i < n; i++) {
            x.minute();
            if (x.q.isEmpty()) {
                minutes.add(x.minute - 1);
            }
        }
        return what == 0 ? minutes.size() : minutes.isEmpty() ? -2 : minutes.get(0);
    }

    int chance(int seed, int man, int n) {
        if (seed < 0 || !man(man) || !ahead(n, 1)) {
            return -1;
        }
        int times = 0;
        long number = seed;
        for (int i = 0; i < 10; i++) {
            World x = w.copy();
            x.coughs = false;
            x.number = number;
            x.go(n);
            number = x.number;
            times += x.men.get(man).state == 2 ? 1 : 0;
        }
        return times;
    }

    int tried(int what, int i, int n) {
        if (!within(what, 0, 5) || !ahead(n, 0) || (what == 2 ? !man(i) : i != 0)) {
            return -1;
        }
        World x = w.ahead();
        x.levied = what != 0;
        x.patient = what == 1;
        x.faster = what == 3 ? 1 : 0;
        x.wet = what == 4;
        if (what == 2) {
            x.leave(i, 3);
        }
        if (what == 5) {
            x.men.forEach(m -> m.comes = w.minute);
        }
        return x.go(n).served();
    }

    int undo() {
        if (done.isEmpty()) {
            return -1;
        }
        w = done.remove(done.size() - 1);
        return done.size();
    }

    int keep() {
        image = w.copy();
        return w.minute;
    }

    int back() {
        if (image == null) {
            return -1;
        }
        w = image.copy();
        done.clear();
        return w.minute;
    }

    int count(int what) {
        switch (what) {
            case 0: return t.men.size();
            case 1: return t.knots;
            case 2: return w.minute;
            case 3: return w.q.size();
            case 4: return w.served();
            case 5: return (int) w.men.stream().filter(m -> m.state == 3).count();
            case 6: return w.water;
            case 7: return w.men.stream().mapToInt(m -> m.coin).sum();
            case 8: return stones.size();
            case 9: return knownBy < 0 ? stones.size() : knownBy;
            case 10: return done.size();
            case 11: return w.powers[0];
            case 12: return w.powers[1];
            case 13: return w.powers[2];
            case 14: return (int) w.men.stream().filter(m -> m.coughed).count();
            default: return -1;
        }
    }
}
