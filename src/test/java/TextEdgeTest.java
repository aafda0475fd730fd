/** The edges that promises 1 to 5 name: a method for each sentence. */
public final class TextEdgeTest {
    private static final Check CHECK = new Check();
    private static final String A = "man a 1 0 1 1 0 0 0;";
    private static final String AB = A + "man b 1 0 1 1 0 0 0;";
    private static final int BLANKS = 0x20202020;

    public static void main(String[] args) {
        newTextHasNoLines();
        newTapeIsEmpty();
        tapeHoldsSevenHundred();
        refusedFeedBringsNone();
        feedPutsTheHighestFirst();
        feedTakesAnyNumbers();
        textOfNone();
        textOfAllThatIsThere();
        textOfMoreThanIsThere();
        textOfFewerThanNone();
        textTakesTheFirst();
        textIsCutWithinAToken();
        textEmptiesTheTape();
        textStartsAtMinuteZero();
        textLeavesNobodyInTheQueue();
        textLeavesNoStones();
        textKnowsAll();
        textLeavesNoImage();
        textLeavesNothingToUndo();
        textPutsPowersBack();
        textDrawsFromTheSeed();
        textForgetsEachLine();
        faultOfNoText();
        faultOfTheLatest();
        faultOfAnotherWhat();
        namedAtTheEdges();
        namedWithoutMen();
        CHECK.end("TextEdgeTest");
    }

    private static void newTextHasNoLines() {
        ThirdInLine x = new ThirdInLine();
        CHECK.due("new: men", x.count(0), 0);
        CHECK.due("new: knots", x.count(1), 0);
        CHECK.due("new: minute", x.count(2), 0);
        CHECK.due("new: in the queue", x.count(3), 0);
        CHECK.due("new: water", x.count(6), 200);
        CHECK.due("new: crown", x.count(11), 0);
        CHECK.due("new: judge", x.count(12), 1);
        CHECK.due("new: tax", x.count(13), 2);
        CHECK.due("new: a minute goes by", x.go(1), 1);
        CHECK.due("new: nobody came", x.stands(0), -2);
    }

    private static void newTapeIsEmpty() {
        CHECK.due("new: not even one byte", new ThirdInLine().text(1), -2);
        CHECK.due("new: the first twenty", new ThirdInLine().feed(0, 0, 0, 0, 0), 20);
    }

    private static ThirdInLine full() {
        ThirdInLine x = new ThirdInLine();
        Check.feed(x, Check.bytes("ear 7;" + " ".repeat(688) + "ear 6;"));
        return x;
    }

    private static void tapeHoldsSevenHundred() {
        ThirdInLine x = new ThirdInLine();
        for (int many = 20; many <= 700; many += 20) {
            CHECK.due("feed to " + many, x.feed(BLANKS, BLANKS, BLANKS, BLANKS, BLANKS), many);
        }
        CHECK.due("feed beyond 700", x.feed(BLANKS, BLANKS, BLANKS, BLANKS, BLANKS), -1);
        ThirdInLine y = full();
        CHECK.due("a text of 700", y.text(700), -1);
        CHECK.due("its last line is told already", y.fault(0), 3);
        CHECK.due("at 694", y.fault(1), 694);
        y = full();
        CHECK.due("a text of 699", y.text(699), -1);
        CHECK.due("as the last line is", y.fault(1), 694);
        y = full();
        CHECK.due("a text of 694", y.text(694), 1);
    }

    private static void refusedFeedBringsNone() {
        ThirdInLine x = full();
        CHECK.due("refused", x.feed(-1, -1, -1, -1, -1), -1);
        CHECK.due("refused again", x.feed(-1, -1, -1, -1, -1), -1);
        CHECK.due("still 700", x.text(701), -2);
        CHECK.due("as they were", x.text(694), 1);
        CHECK.due("empty then", x.feed(BLANKS, BLANKS, BLANKS, BLANKS, BLANKS), 20);
    }

    private static void feedPutsTheHighestFirst() {
        ThirdInLine x = new ThirdInLine();
        CHECK.due("twenty", x.feed(0x6d616e20, 0x61626320, 0x39203820, 0x37203620, 0x35203420), 20);
        CHECK.due("forty", x.feed(0x333b2020, BLANKS, BLANKS, BLANKS, BLANKS), 40);
        CHECK.due("man abc 9 8 7 6 5 4 3;", x.text(22), 1);
        CHECK.due("his name", x.named(1 << 25 | 2 << 20 | 3 << 15), 0);
        int[] want = {9, 8, 7, 0, 5};
        for (int what = 0; what < want.length; what++) {
            CHECK.due("look " + what, x.look(0, what), want[what]);
        }
    }

    private static void feedTakesAnyNumbers() {
        ThirdInLine x = new ThirdInLine();
        CHECK.due("any", x.feed(Integer.MIN_VALUE, Integer.MAX_VALUE, -1, 0, 1), 20);
        CHECK.due("none of it is a token", x.text(20), -1);
        CHECK.due("fault", x.fault(0), 1);
        CHECK.due("place", x.fault(1), 0);
        x.feed(0x20202080, -1, 0, 0, 0);
        x.text(4);
        CHECK.due("a byte above 127 is none of a word's or a blank", x.fault(1), 3);
    }

    private static void textOfNone() {
        ThirdInLine x = Check.told("well 7 7;");
        CHECK.due("no bytes of none", x.text(0), 0);
        CHECK.due("it is a text without lines", x.count(6), 200);
        Check.feed(x, Check.bytes("well 7 7;"));
        CHECK.due("no bytes of twenty", x.text(0), 0);
        CHECK.due("without lines", x.count(6), 200);
        CHECK.due("the tape is empty then", x.text(1), -2);
    }

    private static void textOfAllThatIsThere() {
        ThirdInLine x = new ThirdInLine();
        Check.feed(x, Check.bytes("well 7 7;           "));
        CHECK.due("all twenty", x.text(20), 1);
        CHECK.due("water", x.count(6), 7);
    }

    private static void textOfMoreThanIsThere() {
        ThirdInLine x = new ThirdInLine();
        Check.feed(x, Check.bytes("well 7 7;           "));
        CHECK.due("one more than there are", x.text(21), -2);
        CHECK.due("the greatest number", x.text(Integer.MAX_VALUE), -2);
        CHECK.due("the text stays", x.count(6), 200);
        CHECK.due("the tape stays", x.text(20), 1);
    }

    private static void textOfFewerThanNone() {
        ThirdInLine x = new ThirdInLine();
        Check.feed(x, Check.bytes("well 7 7;           "));
        CHECK.due("below 0", x.text(-1), -2);
        CHECK.due("the least number", x.text(Integer.MIN_VALUE), -2);
        CHECK.due("the text stays", x.count(6), 200);
        CHECK.due("the tape stays", x.text(20), 1);
    }

    private static void textTakesTheFirst() {
        ThirdInLine x = new ThirdInLine();
        Check.feed(x, Check.bytes("well 7 7;!"));
        CHECK.due("the first nine", x.text(9), 1);
        Check.feed(x, Check.bytes("well 7 7;!"));
        CHECK.due("the first ten", x.text(10), -1);
        CHECK.due("the tenth is none", x.fault(1), 9);
    }

    /** What stands behind the first n is no part of a TOKEN. */
    private static void textIsCutWithinAToken() {
        int[] lengths = {10, 3, 11, 6, 5};
        String[] texts = {"seed 123456;", "man abcdef 1 0 1 1 0 0 0;", "law need 1<=2;", "law leviesx", "ear 37;"};
        int[] places = {10, 3, 11, 4, 5};
        for (int i = 0; i < texts.length; i++) {
            ThirdInLine x = new ThirdInLine();
            Check.feed(x, Check.bytes(texts[i]));
            CHECK.due(lengths[i] + " of " + texts[i], x.text(lengths[i]), -1);
            CHECK.due(lengths[i] + " of " + texts[i] + ": fault", x.fault(0), 1);
            CHECK.due(lengths[i] + " of " + texts[i] + ": place", x.fault(1), places[i]);
        }
    }

    private static void textEmptiesTheTape() {
        ThirdInLine x = new ThirdInLine();
        Check.feed(x, Check.bytes(" ".repeat(60)));
        x.text(1);
        CHECK.due("empty behind a text", x.text(1), -2);
        Check.feed(x, Check.bytes(" ".repeat(60)));
        Check.text(x, "!");
        CHECK.due("empty behind a fault", x.text(1), -2);
        CHECK.due("twenty are the first", x.feed(0, 0, 0, 0, 0), 20);
    }

    /** An object with all that a text ends. */
    private static ThirdInLine used() {
        ThirdInLine x = Check.told("man a 9 0 90 30 9 0 0;man b 9 1 90 30 9 0 0;power crown 3;mutter 50;seed 9;");
        x.go(3);
        x.stone(0, 0, 0);
        x.known(0);
        x.keep();
        x.cough(0);
        x.kneel(0, 4);
        x.move(1, 6);
        return x;
    }

    private static final String AGAIN = "man a 9 0 90 30 9 0 0;man b 9 1 90 30 9 0 0;";

    private static void textStartsAtMinuteZero() {
        ThirdInLine x = used();
        Check.text(x, AGAIN);
        CHECK.due("minute 0", x.count(2), 0);
        CHECK.due("no minute gone by", x.was(0, 0), -1);
        CHECK.due("none ruled", x.ruled(0, 0), 0);
    }

    private static void textLeavesNobodyInTheQueue() {
        ThirdInLine x = used();
        Check.text(x, AGAIN);
        CHECK.due("nobody", x.count(3), 0);
        CHECK.due("nobody at 0", x.stands(0), -2);
        CHECK.due("to come", x.look(0, 6), 0);
        CHECK.due("nothing in the bucket", x.look(0, 3), 0);
        CHECK.due("doesn't kneel", x.look(0, 8), 0);
        CHECK.due("no coughs", x.count(14), 0);
    }

    private static void textLeavesNoStones() {
        ThirdInLine x = used();
        Check.text(x, AGAIN);
        CHECK.due("no stones", x.count(8), 0);
        CHECK.due("the first one", x.stone(0, 0, 0), 0);
    }

    private static void textKnowsAll() {
        ThirdInLine x = used();
        Check.text(x, AGAIN);
        x.stone(0, 0, 0);
        CHECK.due("known by all", x.count(9), 1);
    }

    private static void textLeavesNoImage() {
        ThirdInLine x = used();
        Check.text(x, AGAIN);
        CHECK.due("no image", x.back(), -1);
    }

    private static void textLeavesNothingToUndo() {
        ThirdInLine x = used();
        Check.text(x, AGAIN);
        CHECK.due("nothing", x.count(10), 0);
        CHECK.due("nothing", x.undo(), -1);
    }

    private static void textPutsPowersBack() {
        ThirdInLine x = used();
        Check.text(x, AGAIN);
        CHECK.due("crown", x.count(11), 0);
        CHECK.due("judge", x.count(12), 1);
        CHECK.due("tax", x.count(13), 2);
    }

    /** From seed 0 on the first number modulo 100 is 0, the second 68. */
    private static void textDrawsFromTheSeed() {
        ThirdInLine x = used();
        Check.text(x, AGAIN + "mutter 1;");
        x.go(1);
        CHECK.due("0 is below 1", x.count(3), 1);
    }

    /** What a LINE told is as without it by the next text that hasn't that LINE, whichever came ahead. */
    private static void textForgetsEachLine() {
        String all = "man a 9 0 90 30 50 1 0;man b 9 1 90 30 50 1 0;man c 9 2 90 30 50 1 0;guard b a;power crown 5;power judge 5;power tax 5;well 7 7;levies 7;ear 1;"
            + "mutter 99;seed 77;law levy 9;law wear 9;law need 9;";
        String some = "man a 9 0 90 30 50 1 0;man b 9 1 90 30 50 1 0;man c 9 2 90 30 50 1 0;man d 9 3 90 30 50 1 0;";
        ThirdInLine x = Check.told(all);
        for (int i = 0; i < 3; i++) {
            CHECK.due("all of it", Check.text(x, all), 15);
            CHECK.due("all of it", Check.text(x, all), 15);
            CHECK.due("men and muttering", Check.text(x, some + "mutter 1;"), 5);
            x.go(2);
            CHECK.due("seed 0: 0 is below 1, 68 isn't", x.count(3), 3);
            CHECK.due("ear 3, need 2", x.coup(), 6);
            CHECK.due("rate 2", x.look(0, 3), 4);
            CHECK.due("water 200", x.count(6), 196);
            CHECK.due("tax at 2, levy 1 of three, at 0 alone", x.look(2, 4), 53);
            CHECK.due("wear 1", x.look(1, 2), 88);
            CHECK.due("crown at 0", x.count(11), 0);
            CHECK.due("nobody guards", x.look(1, 10), -1);
        }
    }

    private static void faultOfNoText() {
        ThirdInLine x = new ThirdInLine();
        CHECK.due("fault of none", x.fault(0), 0);
        CHECK.due("place of none", x.fault(1), -1);
        x.text(9);
        CHECK.due("fault of -2", x.fault(0), 0);
        CHECK.due("place of -2", x.fault(1), -1);
    }

    private static void faultOfTheLatest() {
        ThirdInLine x = new ThirdInLine();
        Check.text(x, "ear 0;");
        CHECK.due("fault", x.fault(0), 2);
        CHECK.due("place", x.fault(1), 4);
        x.text(1);
        CHECK.due("fault, -2 apart", x.fault(0), 2);
        CHECK.due("place, -2 apart", x.fault(1), 4);
        x.text(-1);
        CHECK.due("fault, -2 apart again", x.fault(0), 2);
        Check.text(x, " ;");
        CHECK.due("another fault", x.fault(0), 1);
        CHECK.due("another place", x.fault(1), 1);
        Check.text(x, "ear 1;");
        CHECK.due("no fault", x.fault(0), 0);
        CHECK.due("no place", x.fault(1), -1);
    }

    private static void faultOfAnotherWhat() {
        ThirdInLine x = new ThirdInLine();
        Check.text(x, "ear 0;");
        for (int what : new int[] {-1, 2, Integer.MIN_VALUE, Integer.MAX_VALUE}) {
            CHECK.due("fault " + what, x.fault(what), -1);
        }
    }

    private static void namedAtTheEdges() {
        ThirdInLine x = Check.told("man a 1 0 1 1 0 0 0;man z 1 0 1 1 0 0 0;man aaaaaa 1 0 1 1 0 0 0;man zzzzzz 1 0 1 1 0 0 0;man az 1 0 1 1 0 0 0;");
        int all = 0;
        int last = 0;
        for (int i = 0; i < 6; i++) {
            all = all << 5 | 1;
            last = last << 5 | 26;
        }
        CHECK.due("a", x.named(1 << 25), 0);
        CHECK.due("z", x.named(26 << 25), 1);
        CHECK.due("aaaaaa", x.named(all), 2);
        CHECK.due("zzzzzz", x.named(last), 3);
        CHECK.due("az", x.named(1 << 25 | 26 << 20), 4);
        int[] none = {0, -1, 1, Integer.MIN_VALUE, Integer.MAX_VALUE, all >> 5 << 5, all & (1 << 25) - 1, all + 1, last + 1, 27 << 25, 1 << 20, 1 << 30 | 1 << 25,
            1 << 31 | 1 << 25, 1 << 25 | 1};
        for (int letters : none) {
            CHECK.due("no " + Integer.toHexString(letters), x.named(letters), -1);
        }
    }

    private static void namedWithoutMen() {
        CHECK.due("nobody", new ThirdInLine().named(1 << 25), -1);
        CHECK.due("nobody of no letters", new ThirdInLine().named(0), -1);
        ThirdInLine x = Check.told(AB);
        x.text(0);
        CHECK.due("nobody any more", x.named(1 << 25), -1);
        Check.text(x, A);
        Check.text(x, "man c 1 0 1 1 0 0 0;!");
        CHECK.due("with a fault the names stay", x.named(1 << 25), 0);
        CHECK.due("with a fault none comes", x.named(3 << 25), -1);
    }
}
