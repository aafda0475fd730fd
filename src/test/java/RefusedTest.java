import java.util.ArrayList;
import java.util.List;
import java.util.NoSuchElementException;
import java.util.function.Consumer;
import java.util.function.Supplier;
import java.util.function.ToLongFunction;

/**
 * Each call that is refused leaves all else as it was, in many states: an object on which it was called and a twin
 * on which it wasn't answer alike, whatever is asked, undone, gone back to or fed then. So do those on which a
 * question was asked that is answered.
 */
public final class RefusedTest {
    private static final Check CHECK = new Check();
    private static final int LEAST = Integer.MIN_VALUE;
    private static final int GREATEST = Integer.MAX_VALUE;
    private static final int NONE = -1;
    private static final int INDEX = -101;
    private static final int ELEMENT = -102;

    private record Call(String name, long due, ToLongFunction<ThirdInLine> call) { }

    private record State(String name, Supplier<ThirdInLine> made, List<Call> refused) { }

    public static void main(String[] args) {
        List<State> states = List.of(newObject(), told(), begun(), fullOfAll(), at(59), at(60), at(61), at(119), at(120));
        for (State state : states) {
            List<Call> calls = new ArrayList<>(always(state.made.get()));
            calls.addAll(state.refused);
            for (Call call : calls) {
                leavesAll(state, call);
            }
            for (Call call : questions()) {
                leavesAllAnswered(state, call);
            }
            faultLeavesAllElse(state);
        }
        CHECK.end("RefusedTest");
    }

    private static Call refused(String name, long due, ToLongFunction<ThirdInLine> call) {
        return new Call(name, due, call);
    }

    private static int number(boolean answer) {
        return answer ? 1 : 0;
    }

    private static int looked(ThirdInLine x, int man, int what) {
        try {
            return x.look(man, what);
        } catch (IndexOutOfBoundsException e) {
            return INDEX;
        } catch (NoSuchElementException e) {
            return ELEMENT;
        }
    }

    private static void leavesAll(State state, Call call) {
        String what = call.name + " in " + state.name;
        for (int look = 0; look < 4; look++) {
            ThirdInLine x = state.made.get();
            CHECK.due(what, call.call.applyAsLong(x), call.due);
            ThirdInLine twin = state.made.get();
            CHECK.due(what + " leaves all " + look, seen(x, look, true).equals(seen(twin, look, true)), true);
        }
    }

    private static void leavesAllAnswered(State state, Call call) {
        for (int look = 0; look < 4; look++) {
            ThirdInLine x = state.made.get();
            long answer = call.call.applyAsLong(x);
            CHECK.due(call.name + " in " + state.name + " again", call.call.applyAsLong(x), answer);
            ThirdInLine twin = state.made.get();
            CHECK.due(call.name + " in " + state.name + " leaves all " + look, seen(x, look, true).equals(seen(twin, look, true)), true);
        }
    }

    /** A FAULT takes the TAPE and is told by fault(); all else stays. */
    private static void faultLeavesAllElse(State state) {
        String[] texts = {"!", "man z 5 1 6 7 8 9 3;man y 1 1 1 1 1 1 1;guard z y;power tax 5;well 1 1;levies 2;ear 7;mutter 99;seed 77;law levy 9;law wear 9;law need 9;ear 1;"};
        for (String text : texts) {
            for (int look = 0; look < 3; look++) {
                ThirdInLine x = state.made.get();
                faulty(x, text);
                ThirdInLine twin = state.made.get();
                CHECK.due("a fault in " + state.name + " leaves all " + look, seen(x, look, false).equals(seen(twin, look, false)), true);
            }
        }
    }

    /** The tape's own bytes, which have a FAULT in each state, are taken first. */
    private static void faulty(ThirdInLine x, String text) {
        int length = 700;
        while (length > 0 && x.text(length) == -2) {
            length -= 20;
        }
        CHECK.due("a fault of what was on the tape", x.fault(0) > 0, true);
        byte[] bytes = Check.bytes(text);
        Check.feed(x, bytes);
        CHECK.due("a fault", x.text(bytes.length), NONE);
    }

    private static String seen(ThirdInLine x, int look, boolean tapeToo) {
        StringBuilder all = new StringBuilder();
        Consumer<Object> put = answer -> all.append(answer).append(' ');
        switch (look) {
            case 0: askAll(x, put, tapeToo); break;
            case 1: undoAll(x, put); break;
            case 2: goOn(x, put); break;
            default: readTape(x, put);
        }
        return all.toString();
    }

    private static void askAll(ThirdInLine x, Consumer<Object> put, boolean faultToo) {
        countsAndLooks(x, put);
        int men = x.count(0);
        for (int place = 0; place < 8; place++) {
            put.accept(x.stands(place));
        }
        for (int kind = 0; kind < 3; kind++) {
            put.accept(x.holder(kind));
            put.accept(x.law(kind, x.stands(0)));
            put.accept(x.was(kind, 0));
            put.accept(x.was(kind, x.count(2) - 1));
            put.accept(x.was(kind, x.count(2)));
        }
        for (int man = 0; man < men; man++) {
            put.accept(x.served(man));
            put.accept(x.ruled(man, 0));
            put.accept(x.ruled(man, 1));
            put.accept(x.named((man + 1) << 25));
        }
        put.accept(x.came());
        put.accept(x.one(0, 0));
        put.accept(x.one(0, 1));
        put.accept(x.coup());
        put.accept(x.decree(2, 1, 1));
        if (faultToo) {
            put.accept(x.fault(0));
            put.accept(x.fault(1));
        }
    }

    private static void countsAndLooks(ThirdInLine x, Consumer<Object> put) {
        for (int what = 0; what < 15; what++) {
            put.accept(x.count(what));
        }
        int men = x.count(0);
        for (int man = 0; man < men; man++) {
            for (int what = 0; what < 11; what++) {
                put.accept(x.look(man, what));
            }
        }
    }

    private static void undoAll(ThirdInLine x, Consumer<Object> put) {
        for (int i = 0; i < 21; i++) {
            put.accept(x.undo());
            put.accept(x.count(7));
            put.accept(x.count(11));
            put.accept(x.count(14));
            for (int man = 0; man < 3; man++) {
                put.accept(looked(x, man, 5));
                put.accept(looked(x, man, 8));
            }
        }
        countsAndLooks(x, put);
    }

    private static void goOn(ThirdInLine x, Consumer<Object> put) {
        put.accept(x.go(Math.min(3, 120 - x.count(2))));
        countsAndLooks(x, put);
        put.accept(x.back());
        countsAndLooks(x, put);
        put.accept(x.go(Math.min(3, 120 - x.count(2))));
        put.accept(x.count(3));
        put.accept(x.count(5));
    }

    private static void readTape(ThirdInLine x, Consumer<Object> put) {
        put.accept(x.text(701));
        put.accept(x.feed(0x20202020, 0x20202020, 0x20202020, 0x20202020, 0x20202020));
        for (int n = 700; n >= 0; n -= 20) {
            put.accept(x.text(n));
            put.accept(x.fault(0));
            put.accept(x.fault(1));
        }
        put.accept(x.count(6));
    }

    private static State newObject() {
        return new State("a new object", () -> {
            ThirdInLine x = new ThirdInLine();
            Check.feed(x, Check.bytes("well 7 !"));
            Check.text(x, "");
            Check.text(x, "!");
            Check.feed(x, Check.bytes("well 7 !"));
            return x;
        }, List.of(
            refused("undo", NONE, x -> x.undo()),
            refused("back", NONE, x -> x.back()),
            refused("look 0", INDEX, x -> looked(x, 0, 0)),
            refused("look 0 for nothing", INDEX, x -> looked(x, 0, 11)),
            refused("join 0", NONE, x -> x.join(0)),
            refused("strike 0", NONE, x -> x.strike(0)),
            refused("known 1", 0, x -> number(x.known(1))),
            refused("coup", NONE, x -> x.coup()),
            refused("decree", -2, x -> x.decree(1, 1, 0)),
            refused("served", NONE, x -> x.served(0)),
            refused("gain", NONE, x -> x.gain(0, 1)),
            refused("one", -2, x -> x.one(0, 0)),
            refused("stone of 0", NONE, x -> x.stone(0, 0, 0))));
    }

    private static final String MEN = "man a 9 0 90 30 9 1 0;man b 8 1 90 30 8 2 0;man c 7 2 90 30 7 3 0;man d 6 3 90 30 6 4 50;man e 5 4 90 1 5 5 0;man f 4 5 1 30 4 6 1;";
    private static final String LAWS = "guard b a;well 150 1;levies 2;ear 2;mutter 20;seed 5;law levy 1+place;law wear 1;law need 2;";

    private static State told() {
        return new State("a text told", () -> {
            ThirdInLine x = Check.told(MEN + LAWS);
            Check.text(x, "ear 0;");
            Check.feed(x, Check.bytes("well 7 7;ear 9"));
            return x;
        }, List.of(
            refused("undo", NONE, x -> x.undo()),
            refused("back", NONE, x -> x.back()),
            refused("out of who is to come", 0, x -> number(x.out(0))),
            refused("swap of who are to come", 0, x -> number(x.swap(0, 1, 0))),
            refused("kneel of who is to come", 0, x -> number(x.kneel(0, 1))),
            refused("cough of who is to come", 0, x -> number(x.cough(0))),
            refused("law of who is to come", Long.MIN_VALUE, x -> x.law(0, 0)),
            refused("need of nobody", Long.MIN_VALUE, x -> x.law(2, 0)),
            refused("coup of nobody", NONE, x -> x.coup()),
            refused("coming of 6", NONE, x -> x.coming(6, 0, 0)),
            refused("coming never", -2, x -> x.coming(3, 7, 119)),
            refused("rests alike", NONE, x -> x.rests(0, 0, 9)),
            refused("rest alike", NONE, x -> x.rest(0, 0, 9, 0)),
            refused("rest too many", -2, x -> x.rest(0, 3, 9, 16)),
            refused("gain of nobody", NONE, x -> x.gain(0, 9)),
            refused("was of none gone by", NONE, x -> x.was(0, 0))));
    }

    /** a, b, d stand, c is out, e served, f to come; an image, stones, a tape, a fault, what can be undone. */
    private static ThirdInLine inBetween() {
        ThirdInLine x = Check.told(MEN.replace("man e 5 4 90 1 ", "man e 50 0 90 1 ").replace("man f 4 5 1 30 4 6 1;", "man f 4 5 90 30 4 6 55;")
            + LAWS.replace("mutter 20", "mutter 1"));
        x.go(3);
        x.keep();
        x.go(1);
        x.stone(0, 0, 0);
        x.stone(1, 1, NONE);
        x.strike(1);
        x.known(2);
        x.kneel(1, 5);
        x.cough(1);
        x.swap(2, 1, 3);
        x.move(0, 4);
        x.join(3);
        x.out(2);
        Check.text(x, "ear 8;");
        Check.feed(x, Check.bytes("man z 1 1 1 1 1 1 1;well 7 7;ear 9"));
        return x;
    }

    private static State begun() {
        List<Call> calls = new ArrayList<>();
        ThirdInLine x0 = inBetween();
        for (int man = 0; man < 6; man++) {
            int who = man;
            int state = x0.look(man, 6);
            if (state != 0) {
                calls.add(refused("join " + who, NONE, x -> x.join(who)));
                calls.add(refused("coming of " + who, NONE, x -> x.coming(who, 0, 50)));
                calls.add(refused("rests of " + who, NONE, x -> x.rests(who, 5, 9)));
                calls.add(refused("rest of " + who, NONE, x -> x.rest(5, who, 9, 0)));
            }
            if (state != 1) {
                calls.add(refused("out " + who, 0, x -> number(x.out(who))));
                calls.add(refused("swap with " + who, 0, x -> number(x.swap(0, who, 0))));
                calls.add(refused("swap of " + who, 0, x -> number(x.swap(who, 0, 0))));
                calls.add(refused("kneel " + who, 0, x -> number(x.kneel(who, 3))));
                calls.add(refused("cough " + who, 0, x -> number(x.cough(who))));
                calls.add(refused("levy of " + who, Long.MIN_VALUE, x -> x.law(0, who)));
                calls.add(refused("wear of " + who, Long.MIN_VALUE, x -> x.law(1, who)));
            }
        }
        CHECK.due("a stands", x0.look(0, 6), 1);
        CHECK.due("b stands", x0.look(1, 6), 1);
        CHECK.due("c is out", x0.look(2, 6), 3);
        CHECK.due("e is served", x0.look(4, 6), 2);
        CHECK.due("f is to come", x0.look(5, 6), 0);
        int coin = x0.look(0, 4);
        calls.add(refused("swap for too much", 0, x -> number(x.swap(0, 1, coin + 1))));
        calls.add(refused("kneel as it is", 0, x -> number(x.kneel(1, 5))));
        calls.add(refused("cough again", 0, x -> number(x.cough(1))));
        calls.add(refused("move as it is", 0, x -> number(x.move(0, 4))));
        calls.add(refused("strike 3", NONE, x -> x.strike(3)));
        calls.add(refused("known 4", 0, x -> number(x.known(4))));
        calls.add(refused("text of 41", -2, x -> x.text(41)));
        calls.add(refused("coming gone by", NONE, x -> x.coming(5, 0, 3)));
        calls.add(refused("gain of nobody", NONE, x -> x.gain(3, 9)));
        calls.add(refused("was of now", NONE, x -> x.was(0, 4)));
        calls.add(refused("look for nothing", ELEMENT, x -> looked(x, 0, 11)));
        calls.add(refused("look for nothing", ELEMENT, x -> looked(x, 5, -1)));
        calls.add(refused("look at nobody", INDEX, x -> looked(x, 6, 0)));
        calls.add(refused("go 117", NONE, x -> x.go(117)));
        return new State("the midst", RefusedTest::inBetween, calls);
    }

    private static State fullOfAll() {
        return new State("all that is full", () -> {
            StringBuilder men = new StringBuilder();
            for (char c = 'a'; c <= 'h'; c++) {
                men.append("man ").append(c).append(" 9 ").append(c - 'a').append(" 90 30 9 0 0;");
            }
            ThirdInLine x = Check.told(men + "mutter 3;seed 5;levies 1;well 99 1;");
            x.keep();
            x.go(2);
            for (int i = 0; i < 23; i++) {
                x.kneel(i % 3, 1 + i % 19);
            }
            for (int i = 0; i < 20; i++) {
                x.stone(i, i % 8, i % 8);
            }
            for (int i = 0; i < 4; i++) {
                x.strike(i);
            }
            x.known(5);
            Check.text(x, "law levy 1/;");
            Check.feed(x, Check.bytes("!" + " ".repeat(680) + "ear 1;well 1 1;mut"));
            return x;
        }, List.of(
            refused("feed", NONE, x -> x.feed(0x6c6c6c6c, -1, 0, 1, 2)),
            refused("stone", NONE, x -> x.stone(0, 0, 0)),
            refused("strike", NONE, x -> x.strike(0)),
            refused("known 25", 0, x -> number(x.known(25))),
            refused("join", NONE, x -> x.join(0)),
            refused("text of 701", -2, x -> x.text(701)),
            refused("decree of 9", NONE, x -> x.decree(9, 8, 0)),
            refused("gain of 8", NONE, x -> x.gain(8, 9))));
    }

    private static State at(int minute) {
        List<Call> calls = new ArrayList<>();
        int left = 120 - minute;
        calls.add(refused("go behind the end", NONE, x -> x.go(left + 1)));
        calls.add(refused("was of now", NONE, x -> x.was(1, minute)));
        calls.add(refused("best", NONE, x -> x.best(0, 0, Math.min(61, left + 1), 0)));
        calls.add(refused("fairest", NONE, x -> x.fairest(0, Math.min(61, left + 1), 0)));
        calls.add(refused("gain", NONE, x -> x.gain(0, Math.min(61, left + 1))));
        calls.add(refused("empty", NONE, x -> x.empty(Math.min(61, left + 1), 0)));
        calls.add(refused("chance", NONE, x -> x.chance(0, 0, Math.min(61, left + 1))));
        calls.add(refused("tried", NONE, x -> x.tried(0, 0, Math.min(61, left + 1))));
        calls.add(refused("text of 21", -2, x -> x.text(21)));
        if (minute > 59) {
            calls.add(refused("rests", NONE, x -> x.rests(2, 3, 1)));
            calls.add(refused("rest", NONE, x -> x.rest(2, 3, 1, 0)));
            calls.add(refused("coming", NONE, x -> x.coming(2, 0, minute)));
            calls.add(refused("join", NONE, x -> x.join(2)));
        }
        return new State("minute " + minute, () -> {
            ThirdInLine x = Check.told("man a 9 0 90 30 9 1 0;man b 8 1 90 30 8 2 0;man c 7 2 90 30 7 3 59;man d 6 3 90 30 6 4 59;well 0 1;law wear 0;mutter 9;seed 1;levies 7;");
            x.go(minute - 3);
            x.keep();
            x.go(3);
            x.kneel(0, 9);
            x.cough(0);
            x.move(1, 0);
            x.stone(59, 7, NONE);
            Check.text(x, "well 1000 1;");
            Check.feed(x, Check.bytes("ear 3;!"));
            return x;
        }, calls);
    }

    /** What is refused in each state, by its arguments alone. */
    private static List<Call> always(ThirdInLine now) {
        List<Call> calls = new ArrayList<>();
        int minute = now.count(2);
        int stones = now.count(8);
        boolean men = now.count(0) > 0;
        for (int n : new int[] {-1, 701, LEAST, GREATEST}) {
            calls.add(refused("text " + n, -2, x -> x.text(n)));
            calls.add(refused("named " + n, NONE, x -> x.named(n)));
        }
        for (int n : new int[] {-1, 121, LEAST, GREATEST}) {
            calls.add(refused("go " + n, NONE, x -> x.go(n)));
        }
        for (int what : new int[] {-1, 2, LEAST, GREATEST}) {
            calls.add(refused("fault " + what, NONE, x -> x.fault(what)));
            calls.add(refused("decree for " + what, NONE, x -> x.decree(1, 0, what)));
            calls.add(refused("best for " + what, NONE, x -> x.best(0, 0, 1, what)));
            calls.add(refused("fairest for " + what, NONE, x -> x.fairest(0, 1, what)));
            calls.add(refused("one for " + what, NONE, x -> x.one(0, what)));
            calls.add(refused("empty for " + what, NONE, x -> x.empty(1, what)));
        }
        for (int man : new int[] {-1, 8, LEAST, GREATEST}) {
            calls.add(refused("look at " + man, INDEX, x -> looked(x, man, 0)));
            calls.add(refused("levy of " + man, Long.MIN_VALUE, x -> x.law(0, man)));
            calls.add(refused("wear of " + man, Long.MIN_VALUE, x -> x.law(1, man)));
            calls.add(refused("join " + man, NONE, x -> x.join(man)));
            calls.add(refused("out " + man, 0, x -> number(x.out(man))));
            calls.add(refused("swap of " + man, 0, x -> number(x.swap(man, 0, 0))));
            calls.add(refused("swap with " + man, 0, x -> number(x.swap(0, man, 0))));
            calls.add(refused("kneel " + man, 0, x -> number(x.kneel(man, 1))));
            calls.add(refused("cough " + man, 0, x -> number(x.cough(man))));
            calls.add(refused("ruled " + man, NONE, x -> x.ruled(man, 0)));
            calls.add(refused("served " + man, NONE, x -> x.served(man)));
            calls.add(refused("coming " + man, NONE, x -> x.coming(man, 0, minute)));
            calls.add(refused("rests " + man, NONE, x -> x.rests(man, 0, 1)));
            calls.add(refused("rest " + man, NONE, x -> x.rest(0, man, 1, 0)));
            calls.add(refused("best of " + man, NONE, x -> x.best(0, man, 1, 0)));
            calls.add(refused("chance of " + man, NONE, x -> x.chance(0, man, 1)));
            calls.add(refused("tried without " + man, NONE, x -> x.tried(2, man, 0)));
            calls.add(refused("stone of " + man, NONE, x -> x.stone(0, 0, man == -1 ? -2 : man)));
            calls.add(refused("stands " + man, NONE, x -> x.stands(man)));
            calls.add(refused("move to " + man, 0, x -> number(x.move(0, man))));
            calls.add(refused("coming to " + man, NONE, x -> x.coming(0, man, minute)));
            calls.add(refused("gain from " + man, NONE, x -> x.gain(man, 1)));
            calls.add(refused("stone at " + man, NONE, x -> x.stone(0, man, NONE)));
        }
        for (int kind : new int[] {-1, 3, LEAST, GREATEST}) {
            calls.add(refused("holder " + kind, NONE, x -> x.holder(kind)));
            calls.add(refused("law " + kind, Long.MIN_VALUE, x -> x.law(kind, 0)));
            calls.add(refused("move of " + kind, 0, x -> number(x.move(kind, 5))));
            calls.add(refused("was of " + kind, NONE, x -> x.was(kind, 0)));
            calls.add(refused("ruled of " + kind, NONE, x -> x.ruled(0, kind)));
            calls.add(refused("best of " + kind, NONE, x -> x.best(kind, 0, 1, 0)));
            calls.add(refused("fairest of " + kind, NONE, x -> x.fairest(kind, 1, 0)));
        }
        for (int n : new int[] {-1, 61, LEAST, GREATEST}) {
            calls.add(refused("rests for " + n, NONE, x -> x.rests(0, 1, n)));
            calls.add(refused("rest for " + n, NONE, x -> x.rest(0, 1, n, 0)));
            calls.add(refused("best for n " + n, NONE, x -> x.best(0, 0, n, 0)));
            calls.add(refused("fairest for n " + n, NONE, x -> x.fairest(0, n, 0)));
            calls.add(refused("gain for " + n, NONE, x -> x.gain(0, n)));
            calls.add(refused("empty for n " + n, NONE, x -> x.empty(n, 0)));
            calls.add(refused("chance for " + n, NONE, x -> x.chance(0, 0, n)));
            calls.add(refused("tried for " + n, NONE, x -> x.tried(0, 0, n)));
            calls.add(refused("tried of i " + n, NONE, x -> x.tried(5, n, 0)));
            calls.add(refused("was behind " + n, n == 61 && minute > 61 ? now.was(0, 61) : NONE, x -> x.was(0, n)));
            calls.add(refused("stone behind " + n, NONE, x -> x.stone(n, 0, NONE)));
            calls.add(refused("coins " + n, 0, x -> number(x.swap(0, 1, n == 61 ? 100 : n))));
            calls.add(refused("kneel for " + n, 0, x -> number(x.kneel(0, n))));
        }
        for (int what : new int[] {-1, 6, LEAST, GREATEST}) {
            calls.add(refused("tried " + what, NONE, x -> x.tried(what, 0, 0)));
        }
        for (int what : new int[] {-1, 15, LEAST, GREATEST}) {
            calls.add(refused("count " + what, NONE, x -> x.count(what)));
            calls.add(refused("look for " + what, men ? ELEMENT : INDEX, x -> looked(x, 0, what)));
        }
        for (int k : new int[] {0, 9, -1, LEAST, GREATEST}) {
            calls.add(refused("decree of " + k, NONE, x -> x.decree(k, 0, 0)));
        }
        for (int m : new int[] {-1, 2, LEAST, GREATEST}) {
            calls.add(refused("decree by " + m, NONE, x -> x.decree(1, m, 0)));
        }
        for (int stone : new int[] {-1, stones, LEAST, GREATEST}) {
            calls.add(refused("strike " + stone, NONE, x -> x.strike(stone)));
        }
        for (int n : new int[] {-2, stones + 1, LEAST, GREATEST}) {
            calls.add(refused("known " + n, 0, x -> number(x.known(n))));
        }
        for (int k : new int[] {-1, LEAST}) {
            calls.add(refused("one " + k, NONE, x -> x.one(k, 0)));
            calls.add(refused("rest " + k, NONE, x -> x.rest(0, 1, 1, k)));
            calls.add(refused("chance from " + k, NONE, x -> x.chance(k, 0, 1)));
        }
        for (int n : new int[] {480, GREATEST}) {
            calls.add(refused("one of " + n, -2, x -> x.one(n, 1)));
        }
        for (int kind = 0; kind < 3; kind++) {
            int which = kind;
            int place = now.count(11 + kind);
            calls.add(refused("move where it is", 0, x -> number(x.move(which, place))));
        }
        calls.add(refused("kneel for none", 0, x -> number(x.kneel(0, 0))));
        calls.add(refused("kneel for 21", 0, x -> number(x.kneel(0, 21))));
        calls.add(refused("swap with himself", 0, x -> number(x.swap(0, 0, 0))));
        calls.add(refused("stone behind 60", NONE, x -> x.stone(60, 0, NONE)));
        calls.add(refused("coming gone by", NONE, x -> x.coming(0, 0, minute - 1)));
        calls.add(refused("coming behind the end", NONE, x -> x.coming(0, 0, 120)));
        calls.add(refused("rests with himself", NONE, x -> x.rests(0, 0, 1)));
        calls.add(refused("best for none", NONE, x -> x.best(0, 0, 0, 0)));
        calls.add(refused("go no minutes", minute, x -> x.go(0)));
        return calls;
    }

    private static List<Call> questions() {
        List<Call> calls = new ArrayList<>();
        for (int man = 0; man < 6; man++) {
            int who = man;
            calls.add(refused("served " + who, 0, x -> x.served(who)));
            calls.add(refused("coming " + who, 0, x -> x.coming(who, 1, Math.min(119, x.count(2) + 9))));
            calls.add(refused("rests " + who, 0, x -> x.rests(who, 5, 9)));
            calls.add(refused("rest " + who, 0, x -> x.rest(who, 5, 9, 0)));
            calls.add(refused("best " + who, 0, x -> x.best(2, who, 1, 1)));
            calls.add(refused("chance " + who, 0, x -> x.chance(77, who, 1)));
            calls.add(refused("tried " + who, 0, x -> x.tried(who, 0, 1)));
            calls.add(refused("law " + who, 0, x -> x.law(0, who)));
            calls.add(refused("gain " + who, 0, x -> x.gain(who, 1)));
            calls.add(refused("look " + who, 0, x -> looked(x, who, 7)));
        }
        calls.add(refused("decree", 0, x -> x.decree(3, 2, 1)));
        calls.add(refused("coup", 0, x -> x.coup()));
        calls.add(refused("fairest", 0, x -> x.fairest(2, 1, 1)));
        calls.add(refused("empty", 0, x -> x.empty(1, 1)));
        calls.add(refused("came", 0, x -> x.came()));
        calls.add(refused("one", 0, x -> x.one(3, 1)));
        return calls;
    }
}
