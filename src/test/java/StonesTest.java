/** Promises 28 to 32: stones, strikes, what is known, who came when. */
public final class StonesTest {
    private static final Check CHECK = new Check();
    private static final String TWO = "man a 9 0 90 4 0 0 0;man b 9 1 90 6 0 0 2;";

    public static void main(String[] args) {
        stones();
        strikes();
        known();
        ways();
        waysByStrikes();
        waysFromTheTextOn();
        waysAtTheEnd();
        one();
        CHECK.end("StonesTest");
    }

    private static void stones() {
        ThirdInLine x = Check.told(TWO);
        CHECK.due("the first", x.stone(0, 0, 0), 0);
        CHECK.due("nobody", x.stone(59, 7, -1), 1);
        int[][] wrong = {{-1, 0, 0}, {60, 0, 0}, {0, -1, 0}, {0, 8, 0}, {0, 0, 2}, {0, 0, -2}};
        for (int[] w : wrong) {
            CHECK.due("stone " + java.util.Arrays.toString(w), x.stone(w[0], w[1], w[2]), -1);
        }
        for (int i = 2; i < 24; i++) {
            CHECK.due("stone " + i, x.stone(1, 1, 1), i);
            CHECK.due("stones", x.count(8), i + 1);
        }
        CHECK.due("a 25th", x.stone(1, 1, 1), -1);
        CHECK.due("a strike as 25th", x.strike(0), -1);
        CHECK.due("stones", x.count(8), 24);
        CHECK.due("nobody, without men", new ThirdInLine().stone(0, 0, -1), 0);
        CHECK.due("a man, without men", new ThirdInLine().stone(0, 0, 0), -1);
    }

    private static void strikes() {
        ThirdInLine x = Check.told(TWO);
        CHECK.due("no stone", x.strike(0), -1);
        x.stone(0, 0, 0);
        CHECK.due("no stone 1", x.strike(1), -1);
        CHECK.due("no stone -1", x.strike(-1), -1);
        for (int i = 1; i < 24; i++) {
            CHECK.due("strike " + i, x.strike(i - 1), i);
        }
        CHECK.due("a 25th", x.strike(0), -1);
        CHECK.due("stones", x.count(8), 24);
    }

    private static void known() {
        ThirdInLine x = Check.told(TWO);
        CHECK.due("1 of none", x.known(1), false);
        CHECK.due("0 of none", x.known(0), true);
        CHECK.due("by 0", x.count(9), 0);
        x.stone(0, 0, 0);
        CHECK.due("still by 0", x.count(9), 0);
        CHECK.due("-2", x.known(-2), false);
        CHECK.due("2 of 1", x.known(2), false);
        CHECK.due("1 of 1", x.known(1), true);
        x.stone(0, 0, 0);
        CHECK.due("by 1", x.count(9), 1);
        CHECK.due("all", x.known(-1), true);
        CHECK.due("by all", x.count(9), 2);
        x.strike(0);
        CHECK.due("by all to come", x.count(9), 3);
        CHECK.due("still so", x.known(4), false);
        CHECK.due("by all", x.count(9), 3);
    }

    private static void allWays(String what, ThirdInLine x, int[]... runs) {
        int many = 0;
        for (int[] run : runs) {
            for (int minute = run[1]; minute <= run[2]; minute++) {
                CHECK.due(what + ", man " + many, x.one(many, 0), run[0]);
                CHECK.due(what + ", minute " + many, x.one(many, 1), minute);
                many++;
            }
        }
        CHECK.due(what + ", how many", x.came(), many);
        CHECK.due(what + ", no more", x.one(many, 0), -2);
        CHECK.due(what + ", no more", x.one(many, 1), -2);
    }

    /** As told a stands first behind 0 and is served in 1; b comes at 2 and is served in 4. */
    private static void ways() {
        ThirdInLine x = Check.told(TWO);
        int[] allOfA = {0, 0, 59};
        int[] allOfB = {1, 0, 59};
        allWays("no stones", x, allOfA, allOfB);
        x.stone(0, 0, 0);
        allWays("a behind 0", x, new int[] {0, 0, 0}, allOfB);
        x = Check.told(TWO);
        x.stone(0, 0, 0);
        x.stone(3, 0, -1);
        allWays("nobody behind 3", x, new int[] {1, 4, 59});
        x.stone(6, 0, 1);
        allWays("b behind 6", x, new int[] {1, 5, 6});
        x.stone(4, 1, -1);
        allWays("nobody at 1 behind 4", x, new int[] {1, 5, 6});
        x.stone(5, 0, -1);
        allWays("nobody behind 5", x, new int[] {1, 6, 6});
        x.stone(8, 0, 1);
        allWays("b behind 8", x);
        ThirdInLine y = Check.told(TWO);
        y.stone(2, 1, 0);
        allWays("a behind b: he comes at 2, if b is nearer, or at 3", y);
        y.known(0);
        y.stone(3, 1, 0);
        y.strike(0);
        y.known(-1);
        allWays("a at 1 behind 3", y, new int[] {0, 3, 3});
        CHECK.due("none without men", new ThirdInLine().came(), 0);
    }

    private static void waysByStrikes() {
        ThirdInLine x = Check.told(TWO);
        x.stone(0, 0, 0);
        x.stone(2, 0, 1);
        CHECK.due("both are so", x.came(), 4);
        x.strike(1);
        CHECK.due("the second is struck", x.came(), 61);
        x.strike(2);
        CHECK.due("the strike is struck", x.came(), 4);
        x.strike(3);
        CHECK.due("and that, too", x.came(), 61);
        x.strike(0);
        CHECK.due("both struck", x.came(), 120);
        int[] want = {120, 61, 4, 61, 4, 61, 120};
        for (int n = 0; n < want.length; n++) {
            x.known(n);
            CHECK.due("known by " + n, x.came(), want[n]);
        }
        x.known(2);
        x.strike(4);
        CHECK.due("known by 2", x.came(), 4);
        x.known(-1);
        CHECK.due("by all: 4 no longer counts, so 3 does, so the second is known", x.came(), 62);
        ThirdInLine y = Check.told(TWO);
        y.stone(2, 0, 1);
        y.stone(1, 0, 1);
        y.known(1);
        CHECK.due("the first one alone", y.came(), 62);
        y.known(2);
        CHECK.due("both", y.came(), 2);
    }

    private static void waysFromTheTextOn() {
        ThirdInLine x = Check.told("man a 9 0 90 4 9 0 0;man b 9 1 3 6 9 0 0;man c 9 2 90 6 9 0 0;levies 1;power tax 1;law wear coin/10;mutter 99;law need 1;");
        x.join(2);
        x.move(2, 0);
        x.go(1);
        x.cough(0);
        x.kneel(0, 9);
        x.stone(0, 1, 1);
        x.stone(1, 0, 1);
        // as told: a, b, c stand so behind 0 without muttering; b takes 1 of each: 11, 13: patience 2, 1 (a is served in 1)
        allWays("powers as told", x, new int[] {0, 0, 0}, new int[] {1, 0, 0}, new int[] {2, 0, 59});
        x.stone(3, 0, 1);
        CHECK.due("c comes, b goes on as the first", x.came(), 62);
        x.go(30);
        CHECK.due("whatever goes by", x.came(), 62);
    }

    private static void waysAtTheEnd() {
        ThirdInLine x = Check.told("man a 9 0 90 1 0 0 0;man b 9 1 90 30 0 0 59;");
        x.stone(59, 0, 1);
        allWays("behind 59", x, new int[] {0, 0, 59}, new int[] {1, 46, 59});
        x.stone(58, 0, -1);
        allWays("nobody behind 58", x, new int[] {0, 0, 59}, new int[] {1, 59, 59});
    }

    private static void one() {
        ThirdInLine x = Check.told(TWO);
        CHECK.due("k 0", x.one(0, 0), 0);
        CHECK.due("k 119", x.one(119, 1), 59);
        CHECK.due("k 120", x.one(120, 1), -2);
        CHECK.due("k greatest", x.one(Integer.MAX_VALUE, 0), -2);
        CHECK.due("k -1", x.one(-1, 0), -1);
        CHECK.due("what 2", x.one(0, 2), -1);
        CHECK.due("what -1", x.one(0, -1), -1);
        CHECK.due("what 2, no so many", x.one(999, 2), -1);
        Check.text(x, "man a 9 0 90 4 0 0 0;");
        CHECK.due("of the text of now", x.came(), 60);
        StringBuilder eight = new StringBuilder();
        for (char c = 'a'; c <= 'h'; c++) {
            eight.append("man ").append(c).append(" 9 0 90 4 0 0 0;");
        }
        ThirdInLine y = Check.told(eight.toString());
        CHECK.due("all ways of eight", y.came(), 480);
        CHECK.due("the last one's man", y.one(479, 0), 7);
        CHECK.due("the last one's minute", y.one(479, 1), 59);
        CHECK.due("no more", y.one(480, 1), -2);
        CHECK.due("none of it", new ThirdInLine().one(0, 0), -2);
    }
}
