import java.math.BigInteger;

/** The edges of the terms (==== 3) and of promises 19 to 27 and 33 to 35: a method for each sentence that names one. */
public final class AheadEdgeTest {
    private static final Check CHECK = new Check();
    private static final int LEAST = Integer.MIN_VALUE;
    private static final int GREATEST = Integer.MAX_VALUE;
    private static final int[] NO_MEN = {-1, 8, LEAST, GREATEST};
    private static final int[] NO_POWERS = {-1, 3, LEAST, GREATEST};
    private static final int[] NO_PLACES = {-1, 8, LEAST, GREATEST};
    private static final int[] NO_WHATS = {-1, 2, LEAST, GREATEST};

    public static void main(String[] args) {
        servedOfNobody();
        servedByTheLastMinute();
        servedOrWas();
        servedByHowLongHeWaits();
        comingOfNobody();
        comingToEachPlace();
        comingByMinutes();
        comingNever();
        decreeWrongly();
        decreeOfAnEmptyQueue();
        decreeOfAFullQueue();
        decreeOfNotSoMany();
        decreeOfLikeSums();
        coupOfNobody();
        coupOfNotEnough();
        coupOfAll();
        coupGuarded();
        gameWrongly();
        gameMinutes();
        gameOfFourMinutes();
        gameServedAheadOf();
        restByNumber();
        bestWrongly();
        bestOfSeveral();
        bestAtTheLastPlace();
        fairestWrongly();
        fairestOfSeveral();
        fairestFarBehind();
        gainWrongly();
        gainAtTheEdges();
        gainWithinMinutes();
        emptyWrongly();
        emptyAtTheEdges();
        chanceWrongly();
        chanceAtTheEdges();
        triedWrongly();
        triedOfNoMinutes();
        triedAtTheEdges();
        minutesLeft();
        CHECK.end("AheadEdgeTest");
    }

    /** Men a, b .. who stand in this order for long, as the well gives next to nothing. */
    private static String men(int many) {
        StringBuilder men = new StringBuilder();
        for (int i = 0; i < many; i++) {
            men.append("man ").append((char) ('a' + i)).append(" 9 ").append(i).append(" 90 30 9 0 0;");
        }
        return men.toString();
    }

    private static ThirdInLine standing(int many, String more) {
        ThirdInLine x = Check.told(men(many) + more);
        x.go(1);
        return x;
    }

    private static void servedOfNobody() {
        for (int man : NO_MEN) {
            CHECK.due("served " + man, standing(8, "").served(man), -1);
        }
        CHECK.due("served 7 of 7", standing(7, "").served(7), -1);
        CHECK.due("served 0 of none", new ThirdInLine().served(0), -1);
    }

    private static void servedByTheLastMinute() {
        String four = men(4) + "man e 9 9 90 1 0 0 0;well 999 1;law wear 0;";
        int[] want = {29, 59, 89, 119, -2};
        for (int now : new int[] {0, 1, 59, 60, 118, 119, 120}) {
            ThirdInLine x = Check.told(four);
            x.go(now);
            for (int man = 0; man < 5; man++) {
                CHECK.due("at " + now + " served " + man, x.served(man), want[man]);
            }
        }
    }

    private static void servedOrWas() {
        ThirdInLine x = Check.told("man a 9 0 90 2 0 0 0;man b 9 0 90 2 0 0 9;");
        CHECK.due("is in 0", x.served(0), 0);
        x.go(120);
        CHECK.due("was in 0", x.served(0), 0);
        CHECK.due("was in 9", x.served(1), 9);
        ThirdInLine y = standing(1, "");
        y.out(0);
        CHECK.due("who is out never", y.served(0), -2);
    }

    /** As told b comes at 5; joined at 1 he is worn by 0, 1, 2, 3 and so OUT in 4, ahead of a's being SERVED in 5. */
    private static void servedByHowLongHeWaits() {
        ThirdInLine x = Check.told("man a 9 0 90 30 0 0 0;man b 9 1 5 2 0 0 5;well 99 5;law wear wait;");
        CHECK.due("comes at 5", x.served(1), 6);
        x.go(1);
        x.join(1);
        CHECK.due("joined at 1", x.served(1), -2);
        CHECK.due("as it goes alike", x.tried(0, 0, 9), 1);
        CHECK.due("no longer there at 4", x.best(1, 1, 9, 1), 3);
        x.undo();
        CHECK.due("comes at 5 again", x.served(1), 6);
    }

    private static void comingOfNobody() {
        ThirdInLine x = Check.told("man a 9 0 90 1 9 0 0;man b 9 1 90 30 9 0 0;man c 9 2 90 30 9 0 0;man d 9 3 90 30 9 0 50;");
        x.go(4);
        x.out(1);
        for (int man : new int[] {0, 1, 2, 4, -1, 8, LEAST, GREATEST}) {
            CHECK.due("not to come " + man, x.coming(man, 1, 9), -1);
        }
        CHECK.due("to come", x.coming(3, 1, 9), 4);
        for (int place : NO_PLACES) {
            CHECK.due("no place " + place, x.coming(3, place, 9), -1);
        }
        CHECK.due("nobody", new ThirdInLine().coming(0, 0, 0), -1);
    }

    private static void comingToEachPlace() {
        for (int many = 0; many < 8; many++) {
            ThirdInLine x = Check.told(men(many) + "man z 9 9 90 30 9 0 59;well 0 1;");
            x.go(1);
            for (int place = 0; place < 8; place++) {
                CHECK.due("behind " + many + " to " + place, x.coming(many, place, 9), place == many ? 1 : -2);
            }
        }
    }

    private static void comingByMinutes() {
        ThirdInLine x = Check.told("man a 9 0 90 30 9 0 59;man b 9 1 1 30 9 0 0;well 0 1;");
        x.go(5);
        for (int minute : new int[] {-1, 4, 120, LEAST, GREATEST}) {
            CHECK.due("no minute " + minute, x.coming(0, 0, minute), -1);
        }
        CHECK.due("now", x.coming(0, 1, 5), 5);
        CHECK.due("now", x.coming(0, 1, 6), 5);
        CHECK.due("the last minute", x.coming(0, 1, 119), 31);
        CHECK.due("the last but one", x.coming(0, 1, 118), 30);
        x.go(54);
        CHECK.due("at 59, by 59", x.coming(0, 1, 59), 59);
        CHECK.due("at 59, gone by", x.coming(0, 1, 58), -1);
        // he is worn out in ten minutes: to stand behind minute 119 he must come behind 59
        ThirdInLine y = Check.told("man a 9 0 10 30 9 0 59;man b 9 1 1 30 9 0 0;well 0 1;");
        CHECK.due("behind 59", y.coming(0, 1, 119), 111);
    }

    private static void comingNever() {
        ThirdInLine x = Check.told("man a 9 0 90 2 9 0 0;man b 9 1 1 30 9 0 5;man c 9 2 90 30 9 0 0;well 2 2;");
        x.go(1);
        CHECK.due("c stands first for long: b is worn out at once", x.coming(1, 1, 1), -2);
        CHECK.due("nobody stands at 2", x.coming(1, 2, 119), -2);
    }

    private static void decreeWrongly() {
        ThirdInLine x = standing(8, "");
        for (int k : new int[] {0, 9, -1, LEAST, GREATEST}) {
            CHECK.due("k " + k, x.decree(k, 0, 0), -1);
            CHECK.due("k " + k, x.decree(k, k, 1), -1);
        }
        for (int k = 1; k <= 8; k++) {
            for (int m : new int[] {-1, k + 1, LEAST, GREATEST}) {
                CHECK.due("k " + k + ", m " + m, x.decree(k, m, 0), -1);
            }
            CHECK.due("k " + k + ", m 0", x.decree(k, 0, 0), 0);
            CHECK.due("k " + k + ", m " + k, x.decree(k, k, 1), (1 << k) - 1);
        }
        for (int what : NO_WHATS) {
            CHECK.due("what " + what, x.decree(1, 1, what), -1);
        }
    }

    private static void decreeOfAnEmptyQueue() {
        ThirdInLine x = new ThirdInLine();
        CHECK.due("none must", x.decree(1, 0, 0), 0);
        CHECK.due("none must, none is bribed", x.decree(8, 0, 1), 0);
        CHECK.due("one must", x.decree(1, 1, 0), -2);
        CHECK.due("one must", x.decree(8, 1, 1), -2);
        CHECK.due("no such k ahead of not so many", x.decree(9, 1, 0), -1);
        CHECK.due("no such what ahead of not so many", x.decree(8, 1, 2), -1);
    }

    private static void decreeOfAFullQueue() {
        StringBuilder men = new StringBuilder();
        StringBuilder leaning = new StringBuilder();
        for (int i = 0; i < 8; i++) {
            men.append("man ").append((char) ('a' + i)).append(" 9 ").append(i).append(" 90 30 9 99 0;");
            leaning.append("man ").append((char) ('a' + i)).append(" 9 ").append(i).append(" 90 30 9 99 0 yes;");
        }
        ThirdInLine x = Check.told(men.toString());
        x.go(1);
        CHECK.due("all eight for 99", x.decree(8, 8, 0), 792);
        CHECK.due("all eight", x.decree(8, 8, 1), 255);
        CHECK.due("one of the first alone", x.decree(1, 1, 1), 1);
        ThirdInLine y = Check.told(leaning.toString());
        y.go(1);
        CHECK.due("all lean so", y.decree(8, 8, 0), 0);
        CHECK.due("nobody is bribed", y.decree(8, 8, 1), 0);
    }

    private static void decreeOfNotSoMany() {
        for (int many = 0; many < 8; many++) {
            ThirdInLine x = standing(many, "");
            CHECK.due("all of " + many, x.decree(8, many, 1), (1 << many) - 1);
            CHECK.due("one more than " + many, x.decree(8, many + 1, 0), -2);
            CHECK.due("one more than " + many, x.decree(8, many + 1, 1), -2);
            CHECK.due("one more than " + many, x.decree(many + 1, many + 1, 0), -2);
        }
    }

    /** By numbers c b a stand as 0 1 2; of like sums the least bits. */
    private static void decreeOfLikeSums() {
        ThirdInLine x = Check.told("man c 9 2 90 30 9 5 0;man b 9 1 90 30 9 5 0;man a 9 0 90 30 9 5 0;");
        x.go(1);
        CHECK.due("a stands first, c has the least bits", x.decree(3, 1, 1), 1);
        CHECK.due("two of three", x.decree(3, 2, 1), 3);
        CHECK.due("of the first two", x.decree(2, 1, 1), 2);
        ThirdInLine y = Check.told("man a 9 0 90 30 9 3 0;man b 9 1 90 30 9 1 0;man c 9 2 90 30 9 0 0;man d 9 3 90 30 9 2 0;");
        y.go(1);
        CHECK.due("for nothing: c", y.decree(4, 1, 1), 4);
        CHECK.due("b, c", y.decree(4, 2, 1), 6);
        CHECK.due("b, c, d for 3: no more than must", y.decree(4, 3, 1), 14);
        CHECK.due("b, c, d for 3", y.decree(4, 3, 0), 3);
        ThirdInLine z = Check.told("man a 9 0 90 30 9 0 0;man b 9 1 90 30 9 0 0 yes;");
        z.go(1);
        CHECK.due("b leans so: a for nothing isn't bribed", z.decree(2, 1, 1), 0);
        CHECK.due("a for nothing is", z.decree(2, 2, 1), 1);
    }

    private static void coupOfNobody() {
        CHECK.due("no men", new ThirdInLine().coup(), -1);
        CHECK.due("nobody came", Check.told(men(3)).coup(), -1);
        ThirdInLine x = standing(1, "");
        x.out(0);
        CHECK.due("nobody is left", x.coup(), -1);
        ThirdInLine y = standing(1, "law need 1;");
        y.out(0);
        CHECK.due("nobody is left, by law", y.coup(), -1);
    }

    private static void coupOfNotEnough() {
        CHECK.due("one alone", standing(1, "").coup(), -2);
        CHECK.due("one alone, by law", standing(1, "law need 0;").coup(), -2);
        CHECK.due("two for 2", standing(2, "law need 2;").coup(), -2);
        CHECK.due("three for 2", standing(3, "law need 2;").coup(), 6);
        CHECK.due("ear 1 for 2", standing(3, "law need 2;ear 1;").coup(), -2);
        CHECK.due("ear 2 for 2", standing(3, "law need 2;ear 2;").coup(), 6);
        CHECK.due("half of seven is four, ear 3", standing(7, "").coup(), -2);
        CHECK.due("half of six is three, ear 3", standing(6, "").coup(), 14);
        CHECK.due("ear 4", standing(7, "ear 4;").coup(), 30);
    }

    private static void coupOfAll() {
        CHECK.due("seven for 7", standing(8, "ear 7;law need 7;").coup(), 254);
        CHECK.due("seven for 8", standing(8, "ear 7;law need 8;").coup(), -2);
        CHECK.due("seven for 9", standing(8, "ear 7;law need 9;").coup(), -2);
        CHECK.due("seven for more", standing(8, "ear 7;law need 9999;").coup(), -2);
        CHECK.due("put to 1", standing(8, "ear 7;law need 0;").coup(), 2);
        CHECK.due("put to 1", standing(8, "ear 7;law need 0-9999;").coup(), 2);
        CHECK.due("half with an error", standing(8, "ear 7;law need 1/0;").coup(), 30);
        CHECK.due("half without", standing(8, "ear 7;").coup(), 30);
    }

    private static void coupGuarded() {
        CHECK.due("right behind", standing(3, "guard b a;").coup(), -2);
        CHECK.due("not right behind", standing(3, "guard c a;").coup(), 6);
        CHECK.due("another one", standing(3, "guard b c;").coup(), 6);
        ThirdInLine x = standing(3, "guard b a;");
        x.swap(1, 2, 0);
        CHECK.due("no longer right behind", x.coup(), 6);
        x.undo();
        x.out(0);
        CHECK.due("he guards nobody of these", x.coup(), 4);
    }

    private static ThirdInLine players() {
        ThirdInLine x = Check.told("man a 9 0 90 2 0 0 59;man b 9 1 90 2 0 0 59;man c 9 1 90 1 0 0 0;man d 9 1 90 30 0 0 0;man e 9 1 90 30 0 0 0;");
        x.go(1);
        x.out(4);
        return x;
    }

    private static void noGame(ThirdInLine x, int one, int other, int n) {
        CHECK.due("rests " + one + " " + other + " " + n, x.rests(one, other, n), -1);
        CHECK.due("rest " + one + " " + other + " " + n, x.rest(one, other, n, 0), -1);
    }

    private static void gameWrongly() {
        ThirdInLine x = players();
        CHECK.due("a game", x.rests(0, 1, 60) > 0, true);
        for (int man : new int[] {2, 3, 4, 5, -1, 8, LEAST, GREATEST}) {
            noGame(x, 0, man, 9);
            noGame(x, man, 1, 9);
        }
        noGame(x, 0, 0, 9);
        noGame(x, 1, 1, 9);
        noGame(x, -1, -1, 9);
        noGame(new ThirdInLine(), 0, 1, 9);
    }

    private static void gameMinutes() {
        ThirdInLine x = players();
        for (int n : new int[] {0, 61, -1, LEAST, GREATEST}) {
            noGame(x, 0, 1, n);
        }
        CHECK.due("for 1", x.rests(0, 1, 1) >= 0, true);
        CHECK.due("for 60", x.rests(0, 1, 60) >= 0, true);
        x.go(58);
        CHECK.due("at 59 for 60", x.rests(0, 1, 60) >= 0, true);
        ThirdInLine y = Check.told("man a 9 0 90 2 0 0 59;man b 9 1 90 2 0 0 59;");
        y.go(60);
        noGame(y, 0, 1, 1);
    }

    private static void allRests(String what, ThirdInLine x, int n, int... want) {
        CHECK.due(what + ", how many", x.rests(0, 1, n), want.length);
        for (int k = 0; k < want.length; k++) {
            CHECK.due(what + ", rest " + k, x.rest(0, 1, n, k), want[k]);
        }
        CHECK.due(what + ", no more", x.rest(0, 1, n, want.length), -2);
    }

    /** Who comes is OUT at once or never SERVED whatever he does: so each pair of MINUTES is a REST. */
    private static void gameOfFourMinutes() {
        String nothing = "man a 9 1 1 30 0 0 59;man b 9 2 1 30 0 0 59;man c 9 0 90 30 0 0 0;well 0 1;";
        for (int now : new int[] {1, 55, 56, 57, 58, 59}) {
            ThirdInLine x = Check.told(nothing);
            x.go(now);
            int choices = Math.min(4, 60 - now);
            int[] want = new int[choices * choices];
            for (int i = 0; i < want.length; i++) {
                want[i] = 100 * (now + i / choices) + now + i % choices;
            }
            allRests("at " + now, x, 9, want);
        }
        ThirdInLine y = Check.told("man a 9 0 90 2 0 0 59;man b 9 1 90 2 0 0 59;");
        y.go(56);
        allRests("four at 56", y, 60, 5656, 5657);
        y.go(2);
        allRests("two at 58", y, 60, 5858, 5859);
        y.go(1);
        allRests("one at 59", y, 60, 5959);
    }

    /** With a BUCKET of 4 a can be SERVED in MINUTE 1, ahead of 2 MINUTES from now; with one of 5 he stands then. */
    private static void gameServedAheadOf() {
        allRests("served in the last minute", Check.told("man a 9 0 90 4 0 0 9;man b 9 1 1 30 0 0 9;"), 2, 1);
        allRests("not in the last minute", Check.told("man a 9 0 90 5 0 0 9;man b 9 1 1 30 0 0 9;"), 2, 0, 1, 2, 3);
    }

    private static void restByNumber() {
        ThirdInLine x = Check.told("man a 9 0 90 2 0 0 9;man b 9 1 90 2 0 0 9;");
        CHECK.due("two", x.rests(0, 1, 9), 2);
        CHECK.due("the first", x.rest(0, 1, 9, 0), 0);
        CHECK.due("the last", x.rest(0, 1, 9, 1), 1);
        CHECK.due("no third", x.rest(0, 1, 9, 2), -2);
        CHECK.due("not so many", x.rest(0, 1, 9, GREATEST), -2);
        CHECK.due("no such one", x.rest(0, 1, 9, -1), -1);
        CHECK.due("no such one", x.rest(0, 1, 9, LEAST), -1);
        CHECK.due("no game ahead of not so many", x.rest(0, 0, 9, 2), -1);
    }

    private static void bestWrongly() {
        ThirdInLine x = standing(8, "well 0 1;");
        for (int kind : NO_POWERS) {
            CHECK.due("no power " + kind, x.best(kind, 0, 1, 0), -1);
        }
        for (int man : NO_MEN) {
            CHECK.due("no man " + man, x.best(0, man, 1, 0), -1);
        }
        for (int n : new int[] {0, 61, -1, LEAST, GREATEST}) {
            CHECK.due("no n " + n, x.best(0, 0, n, 0), -1);
        }
        for (int what : NO_WHATS) {
            CHECK.due("no what " + what, x.best(0, 0, 1, what), -1);
        }
        CHECK.due("no men", new ThirdInLine().best(0, 0, 1, 0), -1);
    }

    private static void bestOfSeveral() {
        ThirdInLine x = Check.told("man a 9 0 90 4 9 0 0;man b 9 1 90 30 9 0 0;man c 9 1 90 30 9 0 59;");
        CHECK.due("b: one minute at 1, one at 0", x.best(0, 1, 2, 0), 0);
        CHECK.due("b: one minute", x.best(0, 1, 2, 1), 1);
        CHECK.due("c never: the first place", x.best(2, 2, 9, 0), 0);
        CHECK.due("c never", x.best(2, 2, 9, 1), 0);
        CHECK.due("the power stays", x.count(11), 0);
    }

    private static void bestAtTheLastPlace() {
        ThirdInLine x = standing(8, "well 0 1;");
        for (int man = 0; man < 8; man++) {
            for (int kind = 0; kind < 3; kind++) {
                CHECK.due("best " + kind + " of " + man, x.best(kind, man, 60, 0), man);
                CHECK.due("best " + kind + " of " + man + ", minutes", x.best(kind, man, 60, 1), 60);
            }
        }
    }

    private static void fairestWrongly() {
        ThirdInLine x = standing(8, "");
        for (int kind : NO_POWERS) {
            CHECK.due("no power " + kind, x.fairest(kind, 1, 0), -1);
        }
        for (int n : new int[] {0, 61, -1, LEAST, GREATEST}) {
            CHECK.due("no n " + n, x.fairest(0, n, 0), -1);
        }
        for (int what : NO_WHATS) {
            CHECK.due("no what " + what, x.fairest(0, 1, what), -1);
        }
    }

    private static void fairestOfSeveral() {
        ThirdInLine x = standing(8, "well 0 1;");
        CHECK.due("one at each", x.fairest(0, 60, 0), 0);
        CHECK.due("one", x.fairest(0, 60, 1), 1);
        CHECK.due("none at each", new ThirdInLine().fairest(0, 60, 0), 0);
        CHECK.due("none", new ThirdInLine().fairest(0, 60, 1), 0);
    }

    /** g stands at 6 till he is worn out, then h comes there: all else stay where they are. */
    private static void fairestFarBehind() {
        ThirdInLine x = Check.told(men(6) + "man g 9 6 2 30 9 0 0;man h 9 7 9 30 9 0 2;well 0 1;");
        CHECK.due("not in two minutes", x.fairest(1, 2, 0), 0);
        CHECK.due("at 6 in three", x.fairest(1, 3, 0), 6);
        CHECK.due("two there", x.fairest(1, 3, 1), 2);
    }

    private static void gainWrongly() {
        ThirdInLine x = standing(7, "");
        for (int place : new int[] {7, -1, 8, LEAST, GREATEST}) {
            CHECK.due("nobody at " + place, x.gain(place, 9), -1);
        }
        CHECK.due("somebody at 6", x.gain(6, 9) >= 0, true);
        for (int n : new int[] {0, 61, -1, LEAST, GREATEST}) {
            CHECK.due("no n " + n, x.gain(0, n), -1);
        }
        CHECK.due("nobody at all", new ThirdInLine().gain(0, 1), -1);
    }

    private static void gainAtTheEdges() {
        ThirdInLine x = standing(8, "well 999 1;law wear 0;");
        CHECK.due("from the first on all is alike", x.gain(0, 60), 0);
        CHECK.due("the last one alone", x.gain(7, 60), 128);
        CHECK.due("the last one alone, in 30", x.gain(7, 30), 128);
        CHECK.due("the last one alone, not in 29", x.gain(7, 29), 0);
        CHECK.due("two of those from 1 on", x.gain(1, 60), 6);
    }

    /** a is served in minute 1 as it goes; b in 2 as it goes and in 1 by himself. */
    private static void gainWithinMinutes() {
        ThirdInLine x = Check.told("man a 9 0 90 4 0 0 0;man b 9 1 90 2 0 0 0;man c 9 2 90 2 0 0 0;");
        x.go(1);
        CHECK.due("b in the first minute", x.gain(1, 1), 2);
        CHECK.due("c in the second", x.gain(1, 2), 6);
        CHECK.due("c alone", x.gain(2, 1), 4);
        ThirdInLine y = Check.told("man a 9 0 90 2 0 0 0;man b 9 1 90 2 0 0 0;");
        y.join(0);
        y.join(1);
        CHECK.due("b earlier, alone", y.gain(1, 2), 2);
        CHECK.due("a not earlier", y.gain(0, 2), 0);
    }

    private static void emptyWrongly() {
        ThirdInLine x = standing(1, "");
        for (int n : new int[] {0, 61, -1, LEAST, GREATEST}) {
            CHECK.due("no n " + n, x.empty(n, 0), -1);
        }
        for (int what : NO_WHATS) {
            CHECK.due("no what " + what, x.empty(1, what), -1);
        }
    }

    private static void emptyAtTheEdges() {
        ThirdInLine x = new ThirdInLine();
        CHECK.due("all of 60", x.empty(60, 0), 60);
        CHECK.due("the first of 60", x.empty(60, 1), 0);
        x.go(119);
        CHECK.due("the last one", x.empty(1, 0), 1);
        CHECK.due("the last one", x.empty(1, 1), 119);
        ThirdInLine y = Check.told("man a 9 0 90 30 0 0 0;well 0 1;");
        CHECK.due("never", y.empty(60, 0), 0);
        CHECK.due("none", y.empty(60, 1), -2);
        ThirdInLine z = Check.told("man a 9 0 90 30 0 0 0;man b 9 0 90 30 0 0 59;well 999 1;");
        CHECK.due("served in 29: empty to 58", z.empty(60, 0), 30);
        CHECK.due("from 29 on", z.empty(60, 1), 29);
        CHECK.due("not in 29 minutes", z.empty(29, 1), -2);
        CHECK.due("in 30 minutes", z.empty(30, 1), 29);
    }

    private static void chanceWrongly() {
        ThirdInLine x = standing(8, "");
        for (int seed : new int[] {-1, LEAST}) {
            CHECK.due("no seed " + seed, x.chance(seed, 0, 1), -1);
        }
        for (int man : NO_MEN) {
            CHECK.due("no man " + man, x.chance(0, man, 1), -1);
        }
        for (int n : new int[] {0, 61, -1, LEAST, GREATEST}) {
            CHECK.due("no n " + n, x.chance(0, 0, n), -1);
        }
        CHECK.due("no men", new ThirdInLine().chance(0, 0, 1), -1);
    }

    /**
     * In MINUTE 0 b is muttered out if the first number is below 50; in 1 a is SERVED, in 2 b is if he stayed: of
     * three numbers drawn each time the first decides.
     */
    private static void chanceAtTheEdges() {
        ThirdInLine x = Check.told("man a 9 0 90 4 0 0 0;man b 9 1 90 2 0 0 0;man c 9 2 90 2 0 0 59;mutter 50;");
        for (int seed : new int[] {0, 1, 99999, 100000, GREATEST - 1, GREATEST}) {
            CHECK.due("a always, seed " + seed, x.chance(seed, 0, 2), 10);
            CHECK.due("a not yet, seed " + seed, x.chance(seed, 0, 1), 0);
            CHECK.due("b, seed " + seed, x.chance(seed, 1, 3), timesNotBelow(seed, 50, 3));
            CHECK.due("b not yet, seed " + seed, x.chance(seed, 1, 2), 0);
            CHECK.due("c not in 59, seed " + seed, x.chance(seed, 2, 59), 0);
            CHECK.due("c in 60, seed " + seed, x.chance(seed, 2, 60), 10);
        }
        x.go(2);
        CHECK.due("who was served is", x.chance(0, 0, 1), 10);
        x.go(118);
        CHECK.due("at the end none are left", x.chance(0, 0, 1), -1);
    }

    private static int timesNotBelow(int seed, int limit, int drawnEachTime) {
        BigInteger number = BigInteger.valueOf(seed);
        int times = 0;
        for (int i = 0; i < 10 * drawnEachTime; i++) {
            number = number.multiply(BigInteger.valueOf(1103515245)).add(BigInteger.valueOf(12345)).mod(BigInteger.ONE.shiftLeft(31));
            if (i % drawnEachTime == 0 && number.intValueExact() / 65536 % 100 >= limit) {
                times++;
            }
        }
        return times;
    }

    private static void triedWrongly() {
        ThirdInLine x = standing(8, "");
        for (int what : new int[] {-1, 6, LEAST, GREATEST}) {
            CHECK.due("no what " + what, x.tried(what, 0, 1), -1);
        }
        for (int what = 0; what < 6; what++) {
            for (int n : new int[] {-1, 61, LEAST, GREATEST}) {
                CHECK.due("no n " + n + " of " + what, x.tried(what, 0, n), -1);
            }
            if (what != 2) {
                for (int i : new int[] {1, -1, LEAST, GREATEST}) {
                    CHECK.due("no i " + i + " of " + what, x.tried(what, i, 1), -1);
                }
            }
        }
        for (int man : NO_MEN) {
            CHECK.due("no man " + man, x.tried(2, man, 1), -1);
        }
        CHECK.due("man 7", x.tried(2, 7, 1), 0);
        CHECK.due("no men, man 0", new ThirdInLine().tried(2, 0, 0), -1);
        CHECK.due("no men, nothing levied", new ThirdInLine().tried(0, 0, 60), 0);
    }

    private static void triedOfNoMinutes() {
        ThirdInLine x = Check.told("man a 9 0 90 1 0 0 0;man b 9 1 90 1 0 0 0;man c 9 1 90 1 0 0 59;");
        for (int what = 0; what < 6; what++) {
            CHECK.due("none served yet " + what, x.tried(what, 0, 0), 0);
        }
        x.go(1);
        for (int what = 0; what < 6; what++) {
            CHECK.due("a served " + what, x.tried(what, what == 2 ? 1 : 0, 0), 1);
            CHECK.due("in one minute more " + what, x.tried(what, what == 2 ? 2 : 0, 1), 2);
        }
        x.go(119);
        for (int what = 0; what < 6; what++) {
            CHECK.due("at the end " + what, x.tried(what, what == 2 ? -1 : 0, 0), what == 2 ? -1 : 3);
            CHECK.due("behind the end " + what, x.tried(what, 0, 1), -1);
        }
    }

    private static void triedAtTheEdges() {
        ThirdInLine rate = Check.told("man a 9 0 90 10 0 0 0;well 999 9;");
        CHECK.due("rate 9 takes two", rate.tried(0, 0, 1), 0);
        CHECK.due("rate one more than 9", rate.tried(3, 0, 1), 1);
        ThirdInLine water = Check.told("man a 9 0 90 2 0 0 0;man b 9 1 90 30 0 0 0;well 0 1;");
        CHECK.due("no water", water.tried(3, 0, 60), 0);
        CHECK.due("endless water, by its rate", water.tried(4, 0, 1), 0);
        CHECK.due("endless water", water.tried(4, 0, 2), 1);
        CHECK.due("endless water, all of it", water.tried(4, 0, 32), 2);
        CHECK.due("endless water, but for one minute", water.tried(4, 0, 31), 1);
        ThirdInLine patience = Check.told("man a 9 0 90 30 0 0 0;man b 9 1 1 30 0 0 0;well 999 1;law wear 9;");
        CHECK.due("worn out", patience.tried(0, 0, 60), 1);
        CHECK.due("endless patience", patience.tried(1, 0, 60), 2);
        CHECK.due("endless patience, but for one minute", patience.tried(1, 0, 59), 1);
        ThirdInLine come = Check.told("man a 9 0 90 1 0 0 59;man b 9 1 90 1 0 0 59;");
        CHECK.due("come now, the first", come.tried(5, 0, 1), 1);
        CHECK.due("come now, both", come.tried(5, 0, 2), 2);
        CHECK.due("as told", come.tried(0, 0, 59), 0);
        CHECK.due("as told", come.tried(0, 0, 60), 1);
        ThirdInLine levy = Check.told("man a 9 0 90 30 9 0 0;man b 9 1 1 30 0 0 0;well 999 1;power tax 1;levies 1;law wear coin;law levy 9;");
        CHECK.due("b takes and is worn", levy.tried(3, 0, 60), 1);
        CHECK.due("nothing is levied", levy.tried(0, 0, 60), 2);
    }

    /** Whatever asks for n MINUTES answers NONE if fewer are left, and only then, for n of 1 .. 60. */
    private static void minutesLeft() {
        for (int now : new int[] {0, 1, 59, 60, 61, 62, 118, 119, 120}) {
            ThirdInLine x = Check.told("man a 9 0 90 30 9 0 0;man b 9 1 90 30 9 0 0;well 0 1;law wear 0;");
            x.join(0);
            x.go(now);
            int left = 120 - now;
            for (int n : new int[] {0, 1, 2, 3, left - 1, left, left + 1, 59, 60, 61}) {
                boolean there = n >= 1 && n <= 60 && n <= left;
                String what = " of " + n + " at " + now;
                CHECK.due("best" + what, x.best(0, 0, n, 1), there ? n : -1);
                CHECK.due("fairest" + what, x.fairest(0, n, 1), there ? 1 : -1);
                CHECK.due("gain" + what, x.gain(0, n), there ? 0 : -1);
                CHECK.due("empty" + what, x.empty(n, 0), there ? 0 : -1);
                CHECK.due("chance" + what, x.chance(0, 0, n), there ? 0 : -1);
                CHECK.due("tried" + what, x.tried(0, 0, n), there || n == 0 ? 0 : -1);
            }
        }
    }
}
