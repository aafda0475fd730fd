/** The edges of stones, strikes and what is known, promises 28 to 32: a method for each sentence that names one. */
public final class StonesEdgeTest {
    private static final Check CHECK = new Check();
    private static final int LEAST = Integer.MIN_VALUE;
    private static final int GREATEST = Integer.MAX_VALUE;
    /** As told a stands first behind 0 and is served in 1; b comes at 2 and is served in 4. */
    private static final String TWO = "man a 9 0 90 4 0 0 0;man b 9 1 90 6 0 0 2;";

    public static void main(String[] args) {
        stoneMinutes();
        stonePlaces();
        stoneMen();
        twentyFourStones();
        strikesCountAsStones();
        strikeOfNone();
        strikeOfEach();
        knownByNone();
        knownByAll();
        knownByMoreThanThereAre();
        knownStaysAsStonesCome();
        knownByAllToCome();
        strikesBehindTheKnown();
        strikesOfStrikes();
        strikesOfOneTwice();
        cameWithoutStones();
        cameWithoutMen();
        cameOfAll();
        cameInTheLastMinute();
        cameAtThePlaceBehindAll();
        cameByPowersAsTold();
        cameNever();
        oneByNumber();
        oneOfAnotherWhat();
        CHECK.end("StonesEdgeTest");
    }

    private static void stoneMinutes() {
        ThirdInLine x = Check.told(TWO);
        for (int minute : new int[] {-1, 60, LEAST, GREATEST}) {
            CHECK.due("no minute " + minute, x.stone(minute, 0, 0), -1);
        }
        CHECK.due("minute 0", x.stone(0, 0, 0), 0);
        CHECK.due("minute 59", x.stone(59, 0, 0), 1);
        x.go(120);
        CHECK.due("whichever minute it is", x.stone(59, 0, 0), 2);
        CHECK.due("never 60", x.stone(60, 0, 0), -1);
    }

    private static void stonePlaces() {
        ThirdInLine x = Check.told(TWO);
        for (int place : new int[] {-1, 8, LEAST, GREATEST}) {
            CHECK.due("no place " + place, x.stone(0, place, 0), -1);
        }
        CHECK.due("place 0", x.stone(0, 0, 0), 0);
        CHECK.due("place 7", x.stone(0, 7, 0), 1);
    }

    private static void stoneMen() {
        ThirdInLine x = Check.told(TWO);
        for (int man : new int[] {-2, 2, 8, LEAST, GREATEST}) {
            CHECK.due("no man " + man, x.stone(0, 0, man), -1);
        }
        CHECK.due("nobody", x.stone(0, 0, -1), 0);
        CHECK.due("the first man", x.stone(0, 0, 0), 1);
        CHECK.due("the last man", x.stone(0, 0, 1), 2);
        CHECK.due("no men", new ThirdInLine().stone(0, 0, 0), -1);
        CHECK.due("no men, nobody", new ThirdInLine().stone(0, 0, -1), 0);
    }

    private static void twentyFourStones() {
        ThirdInLine x = Check.told(TWO);
        for (int i = 0; i < 24; i++) {
            CHECK.due("stone " + i, x.stone(0, 0, 0), i);
        }
        CHECK.due("no 25th", x.stone(0, 0, 0), -1);
        CHECK.due("no 25th, a strike", x.strike(0), -1);
        CHECK.due("24", x.count(8), 24);
        CHECK.due("known by all 24", x.count(9), 24);
        CHECK.due("known by 24", x.known(24), true);
        CHECK.due("not by 25", x.known(25), false);
        CHECK.due("the 25th isn't looked at", x.came(), 1 + 60);
    }

    private static void strikesCountAsStones() {
        ThirdInLine x = Check.told(TWO);
        x.stone(0, 0, 0);
        CHECK.due("the second", x.strike(0), 1);
        CHECK.due("two", x.count(8), 2);
        for (int i = 2; i < 24; i++) {
            CHECK.due("strike " + i, x.strike(0), i);
        }
        CHECK.due("no 25th", x.strike(0), -1);
        CHECK.due("no 25th, a stone", x.stone(0, 0, 0), -1);
        CHECK.due("24", x.count(8), 24);
    }

    private static void strikeOfNone() {
        ThirdInLine x = Check.told(TWO);
        CHECK.due("of no stones", x.strike(0), -1);
        x.stone(0, 0, 0);
        for (int stone : new int[] {-1, 1, 24, LEAST, GREATEST}) {
            CHECK.due("no stone " + stone, x.strike(stone), -1);
        }
        CHECK.due("none came", x.count(8), 1);
    }

    private static void strikeOfEach() {
        ThirdInLine x = Check.told(TWO);
        x.stone(0, 0, 1);
        x.stone(1, 0, 1);
        CHECK.due("neither way", x.came(), 0);
        CHECK.due("of the last one", x.strike(1), 2);
        CHECK.due("the first is so if b came at 0 and a didn't", x.came(), 0);
        CHECK.due("of the first", x.strike(0), 3);
        CHECK.due("none is known", x.came(), 120);
    }

    private static void knownByNone() {
        ThirdInLine x = Check.told(TWO);
        CHECK.due("of none", x.known(0), true);
        x.stone(0, 0, 1);
        CHECK.due("by 0", x.count(9), 0);
        CHECK.due("all ways", x.came(), 120);
    }

    private static void knownByAll() {
        ThirdInLine x = Check.told(TWO);
        x.stone(0, 0, 0);
        x.stone(2, 0, 1);
        CHECK.due("by two", x.known(2), true);
        CHECK.due("two", x.count(9), 2);
        CHECK.due("ways of both", x.came(), 4);
        CHECK.due("by one", x.known(1), true);
        CHECK.due("ways of the first", x.came(), 61);
    }

    private static void knownByMoreThanThereAre() {
        ThirdInLine x = Check.told(TWO);
        CHECK.due("1 of none", x.known(1), false);
        x.stone(0, 0, 0);
        for (int n : new int[] {2, -2, 24, LEAST, GREATEST}) {
            CHECK.due("no " + n, x.known(n), false);
        }
        CHECK.due("by all still", x.count(9), 1);
        x.known(0);
        CHECK.due("no 2", x.known(2), false);
        CHECK.due("by 0 still", x.count(9), 0);
    }

    private static void knownStaysAsStonesCome() {
        ThirdInLine x = Check.told(TWO);
        x.stone(0, 0, 0);
        x.known(1);
        x.stone(0, 0, 1);
        CHECK.due("by 1", x.count(9), 1);
        CHECK.due("of two", x.count(8), 2);
        CHECK.due("the second isn't known", x.came(), 61);
    }

    private static void knownByAllToCome() {
        ThirdInLine x = Check.told(TWO);
        x.known(0);
        CHECK.due("by all", x.known(-1), true);
        x.stone(0, 0, 0);
        CHECK.due("also who came since", x.count(9), 1);
        CHECK.due("it is looked at", x.came(), 61);
        x.strike(0);
        CHECK.due("also a strike", x.count(9), 2);
        CHECK.due("it is looked at", x.came(), 120);
    }

    /** A STRIKE that isn't among the first n doesn't strike. */
    private static void strikesBehindTheKnown() {
        ThirdInLine x = Check.told(TWO);
        x.stone(0, 0, 0);
        x.strike(0);
        x.known(1);
        CHECK.due("without the strike", x.came(), 61);
        x.known(2);
        CHECK.due("with it", x.came(), 120);
    }

    /** Each but the first strikes the one ahead of it: whether the stone counts turns with each. */
    private static void strikesOfStrikes() {
        ThirdInLine x = Check.told(TWO);
        x.stone(0, 0, 0);
        CHECK.due("known", x.came(), 61);
        for (int i = 1; i < 24; i++) {
            x.strike(i - 1);
            CHECK.due("by " + i + " strikes", x.came(), i % 2 == 1 ? 120 : 61);
        }
        for (int n = 0; n <= 24; n++) {
            x.known(n);
            CHECK.due("known by " + n, x.came(), n % 2 == 0 ? 120 : 61);
        }
    }

    private static void strikesOfOneTwice() {
        ThirdInLine x = Check.told(TWO);
        x.stone(0, 0, 0);
        x.strike(0);
        x.strike(0);
        CHECK.due("struck twice", x.came(), 120);
        x.strike(1);
        CHECK.due("the second strike still counts", x.came(), 120);
        x.strike(2);
        CHECK.due("neither counts", x.came(), 61);
        x.strike(4);
        CHECK.due("the second one counts again", x.came(), 120);
    }

    private static void cameWithoutStones() {
        ThirdInLine x = Check.told(TWO);
        CHECK.due("each man at each minute", x.came(), 120);
        CHECK.due("the first man", x.one(0, 0), 0);
        CHECK.due("the first minute", x.one(0, 1), 0);
        CHECK.due("the first man's last minute", x.one(59, 1), 59);
        CHECK.due("the first man still", x.one(59, 0), 0);
        CHECK.due("the second man", x.one(60, 0), 1);
        CHECK.due("his first minute", x.one(60, 1), 0);
        CHECK.due("the last minute", x.one(119, 1), 59);
        CHECK.due("no more", x.one(120, 1), -2);
    }

    private static void cameWithoutMen() {
        ThirdInLine x = new ThirdInLine();
        CHECK.due("no men", x.came(), 0);
        CHECK.due("none", x.one(0, 0), -2);
        x.stone(0, 0, -1);
        CHECK.due("no men, a stone", x.came(), 0);
    }

    private static void cameOfAll() {
        StringBuilder men = new StringBuilder();
        for (char c = 'a'; c <= 'h'; c++) {
            men.append("man ").append(c).append(" 9 0 90 30 0 0 0;");
        }
        ThirdInLine x = Check.told(men.toString());
        CHECK.due("eight men", x.came(), 480);
        CHECK.due("the last man", x.one(479, 0), 7);
        CHECK.due("the last minute", x.one(479, 1), 59);
        CHECK.due("no more", x.one(480, 0), -2);
        x.stone(0, 7, 7);
        CHECK.due("h is last of eight only if all came at 0", x.came(), 8);
        x.known(0);
        x.stone(0, 7, -1);
        x.strike(0);
        x.known(-1);
        CHECK.due("nobody is last if one came late", x.came(), 8 * 59);
    }

    private static void cameInTheLastMinute() {
        ThirdInLine x = Check.told("man a 9 0 90 1 0 0 0;man b 9 1 90 30 0 0 0;well 999 1;");
        x.stone(59, 0, 1);
        CHECK.due("b, who fills for 30 minutes, came from 31 on", x.came(), 29);
        CHECK.due("b", x.one(0, 0), 1);
        CHECK.due("at 31 at first", x.one(0, 1), 31);
        CHECK.due("at 59 at last", x.one(28, 1), 59);
        x.stone(58, 0, -1);
        CHECK.due("nobody behind 58", x.came(), 1);
        CHECK.due("at 59", x.one(0, 1), 59);
    }

    private static void cameAtThePlaceBehindAll() {
        ThirdInLine x = Check.told(TWO);
        x.stone(0, 1, -1);
        CHECK.due("nobody at 1: b not at 0, a whenever", x.came(), 60 + 59);
        x.stone(0, 7, -1);
        CHECK.due("nobody at 7 is always so", x.came(), 60 + 59);
        x.stone(0, 7, 0);
        CHECK.due("somebody at 7 never", x.came(), 0);
    }

    /**
     * As told b takes the tax and is worn by it: OUT in 2, or at 1 behind 2 if one of them comes at 1 or 2. Were the
     * tax a's, b would stay.
     */
    private static void cameByPowersAsTold() {
        ThirdInLine x = Check.told("man a 9 0 90 30 9 0 0;man b 9 1 5 30 0 0 0;well 0 1;power tax 1;levies 1;law wear coin;");
        x.stone(2, 1, -1);
        CHECK.due("all but 1 and 2", x.came(), 2 * 58);
        CHECK.due("a at 0", x.one(0, 1), 0);
        CHECK.due("a at 3", x.one(1, 1), 3);
        CHECK.due("b at 0", x.one(58, 1), 0);
        ThirdInLine y = Check.told("man a 9 0 90 30 9 0 0;man b 9 1 5 30 0 0 0;well 0 1;power tax 1;levies 1;law wear coin;");
        y.move(2, 0);
        y.go(3);
        CHECK.due("b stays now", y.stands(1), 1);
        y.stone(2, 1, -1);
        CHECK.due("as told all the same", y.came(), 2 * 58);
        ThirdInLine z = Check.told("man a 9 0 90 30 9 0 0;man b 9 1 5 30 0 0 0;well 0 1;power tax 0;levies 1;law wear coin;");
        z.stone(2, 1, -1);
        CHECK.due("told otherwise", z.came(), 2 * 57);
    }

    private static void cameNever() {
        ThirdInLine x = Check.told(TWO);
        x.stone(5, 0, 0);
        x.stone(5, 0, 1);
        CHECK.due("two at one place", x.came(), 0);
        CHECK.due("none", x.one(0, 0), -2);
        CHECK.due("none", x.one(0, 1), -2);
    }

    private static void oneByNumber() {
        ThirdInLine x = Check.told(TWO);
        for (int k : new int[] {120, 121, 480, GREATEST}) {
            CHECK.due("not so many " + k, x.one(k, 0), -2);
            CHECK.due("not so many " + k, x.one(k, 1), -2);
        }
        for (int k : new int[] {-1, LEAST}) {
            CHECK.due("no such one " + k, x.one(k, 0), -1);
            CHECK.due("no such one " + k, x.one(k, 1), -1);
        }
    }

    private static void oneOfAnotherWhat() {
        ThirdInLine x = Check.told(TWO);
        for (int what : new int[] {-1, 2, LEAST, GREATEST}) {
            CHECK.due("no what " + what, x.one(0, what), -1);
            CHECK.due("no what " + what + ", not so many either", x.one(120, what), -1);
        }
    }
}
