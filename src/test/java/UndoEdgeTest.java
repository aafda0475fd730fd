/** The edges of the terms (==== 4) and of promises 36 to 39: a method for each sentence that names one. */
public final class UndoEdgeTest {
    private static final Check CHECK = new Check();
    private static final String MEN = "man a 9 0 90 30 9 0 0;man b 9 1 90 30 9 0 0;man c 9 2 90 30 9 0 9;well 99 1;levies 30;";

    public static void main(String[] args) {
        nothingToUndo();
        undoneOne();
        undoneTwenty();
        undoneTwentyOfMore();
        undoneAfterAll();
        onlySixKindsAreUndone();
        whatIsRefusedIsNotUndone();
        aMinuteEndsIt();
        noMinuteDoesNot();
        aTextEndsIt();
        aFaultDoesNot();
        backEndsIt();
        keepDoesNot();
        noImage();
        imageAtTheFirstMinute();
        imageAtTheLastMinute();
        imageInPlaceOfOneAhead();
        imageIsKeptByBack();
        imageOfWhatIsUndone();
        imageForgetsMinutesSince();
        imageLeavesStones();
        imageLeavesKnown();
        imageLeavesTheTape();
        imageLeavesTheFault();
        imageKeepsPowers();
        imageKeepsWhenOneJoined();
        imageKeepsNumbers();
        countOfAnotherWhat();
        countsOfNothing();
        countsOfAll();
        countOfKnown();
        CHECK.end("UndoEdgeTest");
    }

    private static ThirdInLine begun() {
        ThirdInLine x = Check.told(MEN);
        x.go(1);
        return x;
    }

    private static void nothingToUndo() {
        CHECK.due("new", new ThirdInLine().undo(), -1);
        ThirdInLine x = begun();
        CHECK.due("none", x.count(10), 0);
        CHECK.due("none", x.undo(), -1);
        CHECK.due("none still", x.undo(), -1);
        CHECK.due("minute 1", x.count(2), 1);
    }

    private static void undoneOne() {
        ThirdInLine x = begun();
        x.cough(1);
        CHECK.due("one", x.count(10), 1);
        CHECK.due("none left", x.undo(), 0);
        CHECK.due("no cough", x.look(1, 9), 0);
        CHECK.due("none", x.undo(), -1);
    }

    private static ThirdInLine knelt(int times) {
        ThirdInLine x = begun();
        for (int i = 1; i <= times; i++) {
            CHECK.due("kneels", x.kneel(1, 1 + i % 20), true);
        }
        return x;
    }

    private static void undoneTwenty() {
        ThirdInLine x = knelt(20);
        CHECK.due("twenty", x.count(10), 20);
        for (int left = 19; left >= 1; left--) {
            CHECK.due("left", x.undo(), left);
            CHECK.due("as ahead", x.look(1, 8), 1 + left % 20);
        }
        CHECK.due("the first of twenty", x.undo(), 0);
        CHECK.due("he doesn't kneel", x.look(1, 8), 0);
        CHECK.due("no more", x.undo(), -1);
    }

    private static void undoneTwentyOfMore() {
        for (int times : new int[] {21, 22, 39, 40, 41, 60}) {
            ThirdInLine x = knelt(times);
            CHECK.due("twenty of " + times, x.count(10), 20);
            for (int left = 19; left >= 0; left--) {
                CHECK.due("left of " + times, x.undo(), left);
                CHECK.due("as ahead, of " + times, x.look(1, 8), 1 + (times - 20 + left) % 20);
            }
            CHECK.due("the one ahead of twenty stays, of " + times, x.undo(), -1);
            CHECK.due("so he kneels still, of " + times, x.look(1, 8), 1 + (times - 20) % 20);
        }
    }

    private static void undoneAfterAll() {
        ThirdInLine x = knelt(21);
        for (int i = 0; i < 20; i++) {
            x.undo();
        }
        x.cough(1);
        CHECK.due("one", x.count(10), 1);
        CHECK.due("undone", x.undo(), 0);
        CHECK.due("no more", x.undo(), -1);
        CHECK.due("as ahead", x.look(1, 8), 2);
        for (int i = 0; i < 20; i++) {
            x.kneel(1, 3 + i % 2);
        }
        CHECK.due("twenty again", x.count(10), 20);
    }

    private static void onlySixKindsAreUndone() {
        ThirdInLine x = begun();
        x.stone(0, 0, 0);
        x.strike(0);
        x.known(1);
        x.keep();
        x.feed(0, 0, 0, 0, 0);
        x.served(0);
        x.came();
        CHECK.due("none of these", x.count(10), 0);
        x.join(2);
        CHECK.due("joining", x.count(10), 1);
        x.out(2);
        CHECK.due("stepping out", x.count(10), 2);
        x.swap(0, 1, 0);
        CHECK.due("a swap, also for nothing", x.count(10), 3);
        x.kneel(0, 1);
        CHECK.due("kneeling", x.count(10), 4);
        x.cough(0);
        CHECK.due("a cough", x.count(10), 5);
        x.move(0, 1);
        CHECK.due("a power", x.count(10), 6);
        CHECK.due("the power", x.undo(), 5);
        CHECK.due("is where it was", x.count(11), 0);
        CHECK.due("the cough", x.undo(), 4);
        CHECK.due("isn't", x.look(0, 9), 0);
        CHECK.due("kneeling", x.undo(), 3);
        CHECK.due("doesn't", x.look(0, 8), 0);
        CHECK.due("the swap", x.undo(), 2);
        CHECK.due("a is first", x.stands(0), 0);
        CHECK.due("stepping out", x.undo(), 1);
        CHECK.due("c stands again", x.look(2, 5), 2);
        CHECK.due("joining", x.undo(), 0);
        CHECK.due("c is to come", x.look(2, 6), 0);
        CHECK.due("stones stay", x.count(8), 2);
        CHECK.due("known stays", x.count(9), 1);
    }

    private static void whatIsRefusedIsNotUndone() {
        ThirdInLine x = begun();
        x.join(0);
        x.join(9);
        x.out(2);
        x.swap(0, 0, 0);
        x.swap(0, 1, 10);
        x.kneel(0, 21);
        x.cough(2);
        x.move(0, 0);
        x.move(0, 8);
        CHECK.due("none", x.count(10), 0);
        CHECK.due("none", x.undo(), -1);
    }

    private static void aMinuteEndsIt() {
        ThirdInLine x = begun();
        x.cough(1);
        x.go(1);
        CHECK.due("none", x.count(10), 0);
        CHECK.due("none", x.undo(), -1);
        x.cough(1);
        CHECK.due("one since", x.count(10), 1);
    }

    private static void noMinuteDoesNot() {
        ThirdInLine x = begun();
        x.cough(1);
        x.go(0);
        x.go(-1);
        x.go(120);
        CHECK.due("one still", x.count(10), 1);
        CHECK.due("undone", x.undo(), 0);
        ThirdInLine y = Check.told("man a 9 0 90 30 9 0 0;well 0 1;");
        y.go(120);
        y.cough(0);
        y.go(1);
        CHECK.due("behind 120 none goes by", y.undo(), 0);
    }

    private static void aTextEndsIt() {
        ThirdInLine x = begun();
        x.cough(1);
        x.text(0);
        CHECK.due("none", x.count(10), 0);
        CHECK.due("none", x.undo(), -1);
    }

    private static void aFaultDoesNot() {
        ThirdInLine x = begun();
        x.cough(1);
        Check.text(x, "!");
        x.text(9);
        CHECK.due("one still", x.count(10), 1);
        CHECK.due("undone", x.undo(), 0);
        CHECK.due("no cough", x.count(14), 0);
    }

    private static void backEndsIt() {
        ThirdInLine x = begun();
        x.keep();
        x.cough(1);
        x.back();
        CHECK.due("none", x.count(10), 0);
        CHECK.due("none", x.undo(), -1);
        x.cough(1);
        ThirdInLine y = begun();
        y.cough(1);
        y.back();
        CHECK.due("no image: one still", y.undo(), 0);
    }

    private static void keepDoesNot() {
        ThirdInLine x = begun();
        x.cough(1);
        CHECK.due("kept", x.keep(), 1);
        CHECK.due("one still", x.undo(), 0);
        CHECK.due("no cough", x.count(14), 0);
        CHECK.due("the image has it", x.back(), 1);
        CHECK.due("a cough", x.count(14), 1);
    }

    private static void noImage() {
        CHECK.due("new", new ThirdInLine().back(), -1);
        ThirdInLine x = begun();
        x.cough(1);
        CHECK.due("none", x.back(), -1);
        CHECK.due("all stays", x.count(14), 1);
        CHECK.due("minute", x.count(2), 1);
        x.keep();
        x.text(0);
        CHECK.due("none by a text", x.back(), -1);
    }

    private static void imageAtTheFirstMinute() {
        ThirdInLine x = Check.told(MEN);
        CHECK.due("kept", x.keep(), 0);
        x.go(120);
        CHECK.due("back", x.back(), 0);
        CHECK.due("to come", x.look(0, 6), 0);
        CHECK.due("none gone by", x.was(0, 0), -1);
        CHECK.due("all 120 can go by again", x.go(120), 120);
        CHECK.due("of nothing", new ThirdInLine().keep(), 0);
    }

    private static void imageAtTheLastMinute() {
        ThirdInLine x = Check.told("man a 9 0 90 30 9 0 0;well 0 1;");
        x.go(120);
        CHECK.due("kept", x.keep(), 120);
        x.out(0);
        CHECK.due("back", x.back(), 120);
        CHECK.due("stands again", x.stands(0), 0);
        CHECK.due("the last minute is known", x.was(0, 119), 0);
    }

    private static void imageInPlaceOfOneAhead() {
        ThirdInLine x = begun();
        x.keep();
        x.go(4);
        CHECK.due("the second", x.keep(), 5);
        x.go(4);
        CHECK.due("back to that", x.back(), 5);
        CHECK.due("and again to that", x.back(), 5);
    }

    private static void imageIsKeptByBack() {
        ThirdInLine x = begun();
        x.keep();
        for (int i = 0; i < 3; i++) {
            x.out(0);
            x.go(7);
            CHECK.due("back " + i, x.back(), 1);
            CHECK.due("a stands " + i, x.stands(0), 0);
        }
    }

    private static void imageOfWhatIsUndone() {
        ThirdInLine x = begun();
        x.cough(1);
        x.undo();
        x.keep();
        x.cough(1);
        x.back();
        CHECK.due("no cough", x.count(14), 0);
        CHECK.due("nothing to undo", x.count(10), 0);
    }

    private static void imageForgetsMinutesSince() {
        ThirdInLine x = begun();
        x.keep();
        x.go(5);
        CHECK.due("a", x.was(0, 3), 0);
        x.back();
        CHECK.due("not gone by", x.was(0, 1), -1);
        CHECK.due("gone by", x.was(0, 0), 0);
        CHECK.due("one minute", x.ruled(0, 0), 1);
        x.out(0);
        x.go(5);
        CHECK.due("b now", x.was(0, 3), 1);
        CHECK.due("a had one", x.ruled(0, 0), 1);
        CHECK.due("b five", x.ruled(1, 0), 5);
    }

    private static void imageLeavesStones() {
        ThirdInLine x = begun();
        x.stone(0, 0, 0);
        x.keep();
        x.stone(0, 0, 1);
        x.strike(0);
        x.back();
        CHECK.due("three", x.count(8), 3);
        CHECK.due("the fourth", x.stone(0, 0, 0), 3);
    }

    private static void imageLeavesKnown() {
        ThirdInLine x = begun();
        x.stone(0, 0, 0);
        x.keep();
        x.known(0);
        x.back();
        CHECK.due("by none", x.count(9), 0);
        x.known(-1);
        x.back();
        CHECK.due("by all", x.count(9), 1);
    }

    private static void imageLeavesTheTape() {
        ThirdInLine x = begun();
        x.keep();
        Check.feed(x, Check.bytes("ear 1;"));
        x.back();
        CHECK.due("twenty are there", x.text(21), -2);
        CHECK.due("they are", x.text(20), 1);
    }

    private static void imageLeavesTheFault() {
        ThirdInLine x = begun();
        x.keep();
        Check.text(x, " !");
        x.back();
        CHECK.due("fault", x.fault(0), 1);
        CHECK.due("place", x.fault(1), 1);
    }

    private static void imageKeepsPowers() {
        ThirdInLine x = begun();
        x.move(0, 7);
        x.keep();
        x.move(0, 3);
        x.move(1, 3);
        x.move(2, 3);
        x.back();
        CHECK.due("crown", x.count(11), 7);
        CHECK.due("judge", x.count(12), 1);
        CHECK.due("tax", x.count(13), 2);
    }

    /** c joins at 1, which is undone once the image is kept, and joins again at 2. */
    private static void imageKeepsWhenOneJoined() {
        ThirdInLine x = begun();
        x.join(2);
        x.keep();
        x.undo();
        x.go(1);
        x.join(2);
        x.back();
        CHECK.due("just joined", x.look(2, 7), 0);
        x.go(2);
        CHECK.due("two minutes", x.look(2, 7), 2);
        // a steps out at 3 behind the image; in it he stands, and steps out at 1
        ThirdInLine y = begun();
        y.keep();
        y.go(2);
        y.out(0);
        y.back();
        y.out(0);
        CHECK.due("one minute till then", y.look(0, 7), 1);
    }

    /** From seed 0 on the numbers modulo 100 are 0 68 88 17: below 69 in minutes 0, 1 and 3. */
    private static void imageKeepsNumbers() {
        ThirdInLine x = Check.told("man a 9 0 90 30 0 0 2;man b 9 1 90 30 0 0 2;well 0 1;mutter 69;");
        x.go(2);
        x.keep();
        for (int i = 0; i < 2; i++) {
            x.go(1);
            CHECK.due("88 isn't", x.count(3), 2);
            x.go(1);
            CHECK.due("17 is", x.count(3), 1);
            x.back();
        }
    }

    private static void countOfAnotherWhat() {
        for (int what : new int[] {-1, 15, Integer.MIN_VALUE, Integer.MAX_VALUE}) {
            CHECK.due("count " + what, begun().count(what), -1);
        }
    }

    private static void countsOfNothing() {
        ThirdInLine x = new ThirdInLine();
        int[] want = {0, 0, 0, 0, 0, 0, 200, 0, 0, 0, 0, 0, 1, 2, 0};
        for (int what = 0; what < 15; what++) {
            CHECK.due("count of nothing " + what, x.count(what), want[what]);
        }
        x.go(120);
        CHECK.due("minute 120", x.count(2), 120);
    }

    private static void countsOfAll() {
        StringBuilder men = new StringBuilder();
        for (char c = 'a'; c <= 'h'; c++) {
            men.append("man ").append(c).append(" 9 0 90 30 99 0 0;");
        }
        ThirdInLine x = Check.told(men + "power crown 7;power judge 7;power tax 7;well 999 9;levies 30;law levy " + "1+".repeat(31) + "1;law wear 1;");
        x.go(1);
        for (int man = 0; man < 8; man++) {
            x.cough(man);
        }
        for (int i = 0; i < 12; i++) {
            x.kneel(0, 1 + i);
        }
        for (int i = 0; i < 24; i++) {
            x.stone(0, 0, 0);
        }
        int[] want = {8, 64, 1, 8, 0, 0, 990, 792, 24, 24, 20, 7, 7, 7, 8};
        for (int what = 0; what < 15; what++) {
            CHECK.due("count of all " + what, x.count(what), want[what]);
        }
        for (int man = 0; man < 8; man++) {
            x.out(man);
        }
        CHECK.due("all out", x.count(5), 8);
        CHECK.due("nobody stands", x.count(3), 0);
        CHECK.due("no coughs", x.count(14), 0);
        CHECK.due("all coin still", x.count(7), 792);
        ThirdInLine y = Check.told(men.toString().replace(" 90 30 ", " 90 1 "));
        y.go(8);
        CHECK.due("all served", y.count(4), 8);
        CHECK.due("none out", y.count(5), 0);
        CHECK.due("all coin still", y.count(7), 792);
    }

    private static void countOfKnown() {
        ThirdInLine x = begun();
        CHECK.due("all of none", x.count(9), 0);
        x.stone(0, 0, 0);
        CHECK.due("all of one", x.count(9), 1);
        x.known(0);
        CHECK.due("none of one", x.count(9), 0);
        x.known(1);
        x.strike(0);
        CHECK.due("one of two", x.count(9), 1);
        x.known(-1);
        CHECK.due("all of two", x.count(9), 2);
    }
}
