/** Promises 36 to 39: what is undone, images, counts. */
public final class UndoTest {
    private static final Check CHECK = new Check();
    private static final String MEN = "man a 9 0 90 30 9 0 0;man b 9 1 90 30 9 0 0;man c 9 2 90 30 9 0 9;levies 30;";

    public static void main(String[] args) {
        undoEach();
        undoMany();
        undoNoMinute();
        undoTwenty();
        images();
        imageKeepsNumbers();
        imageLeavesStones();
        counts();
        CHECK.end("UndoTest");
    }

    /** What can change, in few calls. */
    private static String state(ThirdInLine x) {
        StringBuilder s = new StringBuilder();
        for (int what = 0; what < 15; what++) {
            s.append(what == 10 ? 0 : x.count(what)).append(' ');
        }
        int men = x.count(0);
        for (int man = 0; man < men; man++) {
            for (int what = 2; what < 10; what++) {
                s.append(x.look(man, what)).append(' ');
            }
        }
        int minutes = x.count(2);
        for (int minute = Math.max(0, minutes - 2); minute < minutes; minute++) {
            s.append(x.was(0, minute)).append(' ');
        }
        return s.toString();
    }

    private static void change(ThirdInLine x, int which) {
        switch (which) {
            case 0: CHECK.due("join", x.join(2), 2); break;
            case 1: CHECK.due("out", x.out(0), true); break;
            case 2: CHECK.due("swap", x.swap(0, 1, 4), true); break;
            case 3: CHECK.due("kneel", x.kneel(1, 4), true); break;
            case 4: CHECK.due("cough", x.cough(1), true); break;
            default: CHECK.due("move", x.move(2, 6), true);
        }
    }

    private static void undoEach() {
        for (int which = 0; which < 6; which++) {
            ThirdInLine x = Check.told(MEN);
            x.go(1);
            CHECK.due("nothing to undo", x.undo(), -1);
            x.kneel(0, 3);
            x.cough(0);
            String before = state(x);
            change(x, which);
            CHECK.due("to undo", x.count(10), 3);
            CHECK.due("it changed " + which, state(x).equals(before), false);
            CHECK.due("undone " + which, x.undo(), 2);
            CHECK.due("all as ahead of " + which, state(x).equals(before), true);
        }
        ThirdInLine x = Check.told(MEN);
        x.join(0);
        x.undo();
        CHECK.due("to come again", x.look(0, 6), 0);
        x.go(1);
        CHECK.due("and comes", x.look(0, 5), 0);
    }

    private static void undoMany() {
        ThirdInLine x = Check.told(MEN);
        x.go(1);
        String[] before = new String[6];
        for (int which = 5; which >= 0; which--) {
            if (which != 1) {
                before[which] = state(x);
                change(x, which);
            }
        }
        CHECK.due("what fails isn't to undo", x.join(2), -1);
        CHECK.due("what fails isn't to undo", x.kneel(1, 4), false);
        CHECK.due("what fails isn't to undo", x.cough(1), false);
        CHECK.due("what fails isn't to undo", x.move(2, 6), false);
        CHECK.due("what fails isn't to undo", x.swap(1, 1, 0), false);
        CHECK.due("what fails isn't to undo", x.out(7), false);
        CHECK.due("five", x.count(10), 5);
        int left = 5;
        for (int which = 0; which < 6; which++) {
            if (which != 1) {
                left--;
                CHECK.due("the latest first", x.undo(), left);
                CHECK.due("as ahead of " + which, state(x).equals(before[which]), true);
            }
        }
        CHECK.due("none left", x.undo(), -1);
    }

    private static void undoNoMinute() {
        ThirdInLine x = Check.told(MEN);
        x.go(1);
        x.cough(1);
        CHECK.due("none goes by", x.go(0), 1);
        CHECK.due("to undo still", x.count(10), 1);
        CHECK.due("no such number", x.go(-1), -1);
        CHECK.due("to undo still", x.count(10), 1);
        x.stone(0, 0, 0);
        x.keep();
        CHECK.due("to undo still", x.count(10), 1);
        CHECK.due("undone", x.undo(), 0);
        x.cough(1);
        x.go(1);
        CHECK.due("a minute went by", x.count(10), 0);
        CHECK.due("a minute went by", x.undo(), -1);
    }

    private static void undoTwenty() {
        ThirdInLine x = Check.told(MEN);
        x.go(1);
        for (int i = 1; i <= 25; i++) {
            CHECK.due("kneel", x.kneel(0, 1 + i % 20), true);
            CHECK.due("to undo", x.count(10), Math.min(i, 20));
        }
        for (int i = 24; i >= 5; i--) {
            CHECK.due("undo", x.undo(), i - 5);
            CHECK.due("as ahead", x.look(0, 8), 1 + i % 20);
        }
        CHECK.due("no more than 20", x.undo(), -1);
        CHECK.due("stays", x.look(0, 8), 6);
        x.kneel(0, 9);
        CHECK.due("and again", x.undo(), 0);
        CHECK.due("as ahead", x.look(0, 8), 6);
    }

    private static void images() {
        ThirdInLine x = Check.told(MEN);
        CHECK.due("no image", x.back(), -1);
        x.go(2);
        x.kneel(1, 9);
        x.cough(1);
        x.move(0, 1);
        String before = state(x);
        CHECK.due("keep", x.keep(), 2);
        x.swap(0, 1, 9);
        x.go(20);
        x.out(2);
        CHECK.due("to undo", x.count(10), 1);
        CHECK.due("back", x.back(), 2);
        CHECK.due("all as in the image", state(x).equals(before), true);
        CHECK.due("nothing to undo", x.count(10), 0);
        CHECK.due("nothing to undo", x.undo(), -1);
        x.out(0);
        x.go(1);
        CHECK.due("back once more", x.back(), 2);
        CHECK.due("all as in the image", state(x).equals(before), true);
        x.go(5);
        String later = state(x);
        CHECK.due("in place of the one ahead", x.keep(), 7);
        x.go(3);
        CHECK.due("back to that", x.back(), 7);
        CHECK.due("all as in that", state(x).equals(later), true);
        x.go(113);
        CHECK.due("keep at 120", x.keep(), 120);
        CHECK.due("back at 120", x.back(), 120);
    }

    private static void imageKeepsNumbers() {
        String men = "man a 9 0 90 30 9 0 0;man b 9 1 90 30 9 0 0;man c 9 2 90 30 9 0 0;man d 9 3 90 30 9 0 0;mutter 20;seed 7;";
        ThirdInLine x = Check.told(men);
        x.go(2);
        x.keep();
        x.go(9);
        String once = state(x);
        x.back();
        x.go(9);
        CHECK.due("the same numbers", state(x).equals(once), true);
    }

    private static void imageLeavesStones() {
        ThirdInLine x = Check.told(MEN);
        x.keep();
        x.stone(0, 0, 0);
        x.known(0);
        Check.feed(x, Check.bytes("ear 1;"));
        CHECK.due("back", x.back(), 0);
        CHECK.due("stones stay", x.count(8), 1);
        CHECK.due("known stays", x.count(9), 0);
        CHECK.due("the tape stays", x.text(20), 1);
        Check.text(x, MEN);
        x.keep();
        Check.text(x, "ear 0;");
        CHECK.due("a fault keeps the image", x.back(), 0);
        CHECK.due("the fault stays", x.fault(0), 2);
        CHECK.due("its place stays", x.fault(1), 4);
    }

    private static void counts() {
        ThirdInLine x = Check.told("man a 9 0 90 2 9 0 0;man b 9 1 90 30 8 0 0;man c 9 2 1 30 7 0 0;man d 9 2 50 30 6 0 9;man e 9 3 50 30 6 0 0;"
            + "power crown 3;power judge 4;power tax 5;well 100 3;law levy 1+2;law wear place;");
        x.go(1);
        x.stone(0, 0, 0);
        x.stone(0, 0, 0);
        x.strike(0);
        x.known(2);
        x.cough(1);
        x.cough(4);
        x.move(1, 6);
        int[] want = {5, 4, 1, 2, 1, 1, 98, 36, 3, 2, 3, 3, 6, 5, 2};
        for (int what = 0; what < want.length; what++) {
            CHECK.due("count " + what, x.count(what), want[what]);
        }
        CHECK.due("count 15", x.count(15), -1);
        CHECK.due("count -1", x.count(-1), -1);
        CHECK.due("count greatest", x.count(Integer.MAX_VALUE), -1);
    }
}
