import java.util.NoSuchElementException;

/** The edges of the terms (==== 2) and of promises 6 to 18: a method for each sentence that names one. */
public final class QueueEdgeTest {
    private static final Check CHECK = new Check();
    private static final int[] NO_MEN = {-1, 8, Integer.MIN_VALUE, Integer.MAX_VALUE};
    private static final int[] NO_POWERS = {-1, 3, Integer.MIN_VALUE, Integer.MAX_VALUE};
    private static final int[] NO_PLACES = {-1, 8, Integer.MIN_VALUE, Integer.MAX_VALUE};

    public static void main(String[] args) {
        lookAtNobody();
        lookAtNothing();
        lookAtWhoHasNoPlace();
        lookAtWhoNeverJoined();
        lookAtWhoWaitedTillThen();
        lookAtWhoGuardsNobody();
        standsAtTheEdges();
        holderAtTheEdges();
        lawOfNobody();
        lawOfAnotherWhat();
        lawUntold();
        lawWithAnError();
        lawOfAnEmptyQueue();
        goNone();
        goAll();
        goNoSuchNumber();
        goBehindTheEnd();
        joinWrongly();
        joinToTheLastPlace();
        joinOnce();
        outWrongly();
        outOfEachPlace();
        swapWrongly();
        swapCoin();
        kneelWrongly();
        kneelMinutes();
        kneelAsItIs();
        coughWrongly();
        moveWrongly();
        moveToEachPlace();
        wasWrongly();
        wasTheFirstAndTheLast();
        ruledWrongly();
        ruledAllMinutes();
        joiningByFarAgeNumber();
        comingAtTheEdges();
        CHECK.end("QueueEdgeTest");
    }

    /** Men a, b .. who stand in this order for long; who comes is at the well in minute 0. */
    private static String men(int many) {
        StringBuilder men = new StringBuilder();
        for (int i = 0; i < many; i++) {
            men.append("man ").append((char) ('a' + i)).append(" 9 ").append(i).append(" 90 30 9 0 0;");
        }
        return men + "well 999 1;";
    }

    private static ThirdInLine standing(int many, String more) {
        ThirdInLine x = Check.told(men(many) + more);
        x.go(1);
        return x;
    }

    /** a is served, b is out, c stands, d is to come. */
    private static ThirdInLine oneOfEach() {
        ThirdInLine x = Check.told("man a 9 0 90 1 9 0 0;man b 9 1 90 30 9 0 0;man c 9 2 90 30 9 0 0;man d 9 3 90 30 9 0 50;law levy 1;law wear 1;law need 1;");
        x.go(4);
        x.out(1);
        return x;
    }

    private static int thrown(ThirdInLine x, int man, int what) {
        try {
            x.look(man, what);
            return 0;
        } catch (IndexOutOfBoundsException e) {
            return 1;
        } catch (NoSuchElementException e) {
            return 2;
        }
    }

    private static void lookAtNobody() {
        for (int man : NO_MEN) {
            CHECK.due("look at " + man + " of 8", thrown(Check.told(men(8)), man, 0), 1);
            CHECK.due("look at " + man + " of none", thrown(new ThirdInLine(), man, 0), 1);
        }
        CHECK.due("look at 7 of 8", thrown(Check.told(men(8)), 7, 0), 0);
        CHECK.due("look at 7 of 7", thrown(Check.told(men(7)), 7, 0), 1);
        CHECK.due("look at 0 of none", thrown(new ThirdInLine(), 0, 0), 1);
    }

    private static void lookAtNothing() {
        ThirdInLine x = Check.told(men(1));
        for (int what : new int[] {-1, 11, Integer.MIN_VALUE, Integer.MAX_VALUE}) {
            CHECK.due("look for " + what, thrown(x, 0, what), 2);
        }
        for (int what = 0; what < 11; what++) {
            CHECK.due("look for " + what, thrown(x, 0, what), 0);
        }
    }

    private static void lookAtWhoHasNoPlace() {
        ThirdInLine x = oneOfEach();
        int[] places = {-1, -1, 0, -1};
        int[] states = {2, 3, 1, 0};
        for (int man = 0; man < 4; man++) {
            CHECK.due("place of " + man, x.look(man, 5), places[man]);
            CHECK.due("state of " + man, x.look(man, 6), states[man]);
        }
    }

    private static void lookAtWhoNeverJoined() {
        ThirdInLine x = oneOfEach();
        CHECK.due("d never did", x.look(3, 7), 0);
        x.go(46);
        CHECK.due("d never did till 50", x.look(3, 7), 0);
        x.go(1);
        CHECK.due("d in 50", x.look(3, 7), 1);
    }

    private static void lookAtWhoWaitedTillThen() {
        ThirdInLine x = oneOfEach();
        CHECK.due("a is served at once", x.look(0, 7), 0);
        CHECK.due("b is out at 4", x.look(1, 7), 4);
        CHECK.due("c waits", x.look(2, 7), 4);
        x.go(116);
        CHECK.due("a still", x.look(0, 7), 0);
        CHECK.due("b still", x.look(1, 7), 4);
        ThirdInLine y = Check.told(men(1));
        y.go(120);
        CHECK.due("served in 29", y.look(0, 7), 29);
        ThirdInLine z = Check.told("man a 9 0 9 30 0 0 0;well 0 1;");
        z.go(120);
        CHECK.due("waits to the end", z.look(0, 7), 120);
    }

    private static void lookAtWhoGuardsNobody() {
        ThirdInLine x = Check.told(men(8) + "guard h a;");
        CHECK.due("a guards nobody", x.look(0, 10), -1);
        CHECK.due("h guards a", x.look(7, 10), 0);
    }

    private static void standsAtTheEdges() {
        ThirdInLine empty = new ThirdInLine();
        ThirdInLine seven = standing(7, "");
        ThirdInLine eight = standing(8, "");
        for (int place : NO_PLACES) {
            CHECK.due("no place " + place, empty.stands(place), -1);
            CHECK.due("no place " + place, eight.stands(place), -1);
        }
        CHECK.due("nobody first", empty.stands(0), -2);
        CHECK.due("nobody last", empty.stands(7), -2);
        CHECK.due("the last of seven", seven.stands(6), 6);
        CHECK.due("behind seven", seven.stands(7), -2);
        CHECK.due("the first of eight", eight.stands(0), 0);
        CHECK.due("the last of eight", eight.stands(7), 7);
    }

    private static void holderAtTheEdges() {
        String last = "power crown 7;power judge 7;power tax 7;";
        ThirdInLine seven = standing(7, last);
        ThirdInLine eight = standing(8, last);
        for (int kind = 0; kind < 3; kind++) {
            CHECK.due("nobody holds " + kind, new ThirdInLine().holder(kind), -2);
            CHECK.due("nobody of seven holds " + kind, seven.holder(kind), -2);
            CHECK.due("the last of eight holds " + kind, eight.holder(kind), 7);
        }
        for (int kind : NO_POWERS) {
            CHECK.due("no power " + kind, eight.holder(kind), -1);
        }
    }

    private static void lawOfNobody() {
        ThirdInLine x = oneOfEach();
        for (int what = 0; what < 2; what++) {
            CHECK.due("of who is served", x.law(what, 0), Long.MIN_VALUE);
            CHECK.due("of who is out", x.law(what, 1), Long.MIN_VALUE);
            CHECK.due("of who stands", x.law(what, 2), 1);
            CHECK.due("of who is to come", x.law(what, 3), Long.MIN_VALUE);
            CHECK.due("of no man 4", x.law(what, 4), Long.MIN_VALUE);
            for (int man : NO_MEN) {
                CHECK.due("of no man " + man, x.law(what, man), Long.MIN_VALUE);
            }
        }
        for (int man : NO_MEN) {
            CHECK.due("need, whoever " + man, x.law(2, man), 1);
        }
    }

    private static void lawOfAnotherWhat() {
        ThirdInLine x = oneOfEach();
        for (int what : new int[] {-1, 3, Integer.MIN_VALUE, Integer.MAX_VALUE}) {
            CHECK.due("law " + what, x.law(what, 2), Long.MIN_VALUE);
        }
    }

    private static void lawUntold() {
        String[] laws = {"law wear 1;law need 1;", "law levy 1;law need 1;", "law levy 1;law wear 1;"};
        for (int untold = 0; untold < 3; untold++) {
            ThirdInLine x = standing(2, laws[untold]);
            for (int what = 0; what < 3; what++) {
                CHECK.due("law " + what + " of " + laws[untold], x.law(what, 0), what == untold ? Long.MIN_VALUE : 1);
            }
        }
    }

    private static void lawWithAnError() {
        ThirdInLine x = standing(2, "law levy 1/place;law wear place/(place-1);law need 1/(place-2);");
        CHECK.due("levy of the first", x.law(0, 0), Long.MIN_VALUE);
        CHECK.due("levy of the second", x.law(0, 1), 1);
        CHECK.due("wear of the first", x.law(1, 0), 0);
        CHECK.due("wear of the second", x.law(1, 1), Long.MIN_VALUE);
        CHECK.due("need of two", x.law(2, 0), Long.MIN_VALUE);
        x.out(0);
        CHECK.due("need of one", x.law(2, 0), -1);
    }

    private static void lawOfAnEmptyQueue() {
        ThirdInLine x = Check.told(men(1) + "law need 1;");
        CHECK.due("nobody yet", x.law(2, 0), Long.MIN_VALUE);
        x.join(0);
        CHECK.due("one", x.law(2, 0), 1);
        x.out(0);
        CHECK.due("nobody any more", x.law(2, 0), Long.MIN_VALUE);
    }

    private static void goNone() {
        ThirdInLine x = Check.told(men(2));
        CHECK.due("go 0", x.go(0), 0);
        CHECK.due("nobody came", x.count(3), 0);
        x.go(120);
        CHECK.due("go 0 at the end", x.go(0), 120);
    }

    private static void goAll() {
        ThirdInLine x = Check.told(men(2));
        CHECK.due("go 120", x.go(120), 120);
        ThirdInLine y = Check.told(men(2));
        for (int t = 1; t <= 120; t++) {
            CHECK.due("go to " + t, y.go(1), t);
        }
        CHECK.due("no 121st", y.go(1), -1);
        CHECK.due("still 120", y.count(2), 120);
    }

    private static void goNoSuchNumber() {
        ThirdInLine x = Check.told(men(2));
        for (int n : new int[] {-1, 121, Integer.MIN_VALUE, Integer.MAX_VALUE}) {
            CHECK.due("go " + n, x.go(n), -1);
            CHECK.due("none goes by", x.count(2), 0);
            CHECK.due("nobody comes", x.count(3), 0);
        }
    }

    private static void goBehindTheEnd() {
        ThirdInLine x = Check.told(men(2));
        x.go(1);
        CHECK.due("120 from 1 on", x.go(120), -1);
        CHECK.due("none goes by", x.count(2), 1);
        x.go(117);
        CHECK.due("3 from 118 on", x.go(3), -1);
        CHECK.due("2 from 118 on", x.go(2), 120);
        for (int n : new int[] {1, 120, 121, Integer.MAX_VALUE, -1}) {
            CHECK.due(n + " from 120 on", x.go(n), -1);
        }
    }

    private static void joinWrongly() {
        ThirdInLine x = oneOfEach();
        for (int man : new int[] {0, 1, 2, 4, -1, 8, Integer.MIN_VALUE, Integer.MAX_VALUE}) {
            CHECK.due("can't join " + man, x.join(man), -1);
        }
        CHECK.due("can join", x.join(3), 1);
        CHECK.due("nobody to join", new ThirdInLine().join(0), -1);
    }

    private static void joinToTheLastPlace() {
        ThirdInLine x = Check.told(men(8));
        for (int man = 7; man >= 0; man--) {
            CHECK.due("joins " + man, x.join(man), 7 - man);
        }
        CHECK.due("first", x.stands(0), 7);
        CHECK.due("last", x.stands(7), 0);
        CHECK.due("full", x.count(3), 8);
        x.go(1);
        CHECK.due("nobody comes twice", x.count(3), 8);
        CHECK.due("first still", x.stands(0), 7);
    }

    /** Who joined by call and left doesn't come at his own MINUTE. */
    private static void joinOnce() {
        ThirdInLine x = Check.told("man a 9 0 90 1 9 0 5;man b 9 0 90 30 9 0 5;");
        x.join(0);
        x.join(1);
        x.go(1);
        CHECK.due("a is served", x.look(0, 6), 2);
        x.out(1);
        x.go(5);
        CHECK.due("a stays so", x.look(0, 6), 2);
        CHECK.due("b stays out", x.look(1, 6), 3);
        CHECK.due("nobody stands", x.count(3), 0);
    }

    private static void outWrongly() {
        ThirdInLine x = oneOfEach();
        for (int man : new int[] {0, 1, 3, 4, -1, 8, Integer.MIN_VALUE, Integer.MAX_VALUE}) {
            CHECK.due("can't step out " + man, x.out(man), false);
        }
        CHECK.due("can", x.out(2), true);
        CHECK.due("nobody to step out", new ThirdInLine().out(0), false);
    }

    private static void outOfEachPlace() {
        for (int gone = 0; gone < 8; gone++) {
            ThirdInLine x = standing(8, "");
            x.out(gone);
            for (int place = 0; place < 8; place++) {
                CHECK.due(gone + " is out, stands " + place, x.stands(place), place == 7 ? -2 : place < gone ? place : place + 1);
            }
        }
    }

    private static void swapWrongly() {
        ThirdInLine x = oneOfEach();
        for (int man : new int[] {0, 1, 3, 4, -1, 8, Integer.MIN_VALUE, Integer.MAX_VALUE}) {
            CHECK.due("swap with " + man, x.swap(2, man, 0), false);
            CHECK.due("swap of " + man, x.swap(man, 2, 0), false);
        }
        CHECK.due("alike", x.swap(2, 2, 0), false);
        CHECK.due("alike, of no men", x.swap(-1, -1, 0), false);
        CHECK.due("nobody", new ThirdInLine().swap(0, 1, 0), false);
    }

    private static void swapCoin() {
        ThirdInLine x = Check.told("man a 9 0 90 30 99 0 0;man b 9 1 90 30 99 0 0;man c 9 2 90 30 0 0 0;power tax 7;");
        x.go(1);
        for (int coin : new int[] {-1, 100, Integer.MIN_VALUE, Integer.MAX_VALUE}) {
            CHECK.due("coin " + coin, x.swap(0, 1, coin), false);
        }
        CHECK.due("c has none", x.swap(2, 1, 1), false);
        CHECK.due("for nothing", x.swap(2, 1, 0), true);
        CHECK.due("c is second", x.look(2, 5), 1);
        CHECK.due("all 99", x.swap(0, 1, 99), true);
        CHECK.due("a has none", x.look(0, 4), 0);
        CHECK.due("b has all", x.look(1, 4), 198);
        CHECK.due("b has more than 99, pays no more", x.swap(1, 2, 100), false);
        CHECK.due("b pays 99", x.swap(1, 2, 99), true);
        CHECK.due("b pays 99 again", x.swap(1, 0, 99), true);
        CHECK.due("then he has none", x.swap(1, 0, 1), false);
    }

    private static void kneelWrongly() {
        ThirdInLine x = oneOfEach();
        for (int man : new int[] {0, 1, 3, 4, -1, 8, Integer.MIN_VALUE, Integer.MAX_VALUE}) {
            CHECK.due("can't kneel " + man, x.kneel(man, 1), false);
        }
        for (int minutes : new int[] {0, -1, 21, Integer.MIN_VALUE, Integer.MAX_VALUE}) {
            CHECK.due("not for " + minutes, x.kneel(2, minutes), false);
        }
        CHECK.due("he doesn't", x.look(2, 8), 0);
        CHECK.due("nobody to kneel", new ThirdInLine().kneel(0, 1), false);
    }

    private static void kneelMinutes() {
        ThirdInLine x = standing(2, "");
        CHECK.due("for 1", x.kneel(1, 1), true);
        x.go(1);
        CHECK.due("isn't worn", x.look(1, 2), 89);
        CHECK.due("no longer", x.look(1, 8), 0);
        x.go(1);
        CHECK.due("is worn", x.look(1, 2), 88);
        CHECK.due("for 20", x.kneel(1, 20), true);
        x.go(19);
        CHECK.due("one more", x.look(1, 8), 1);
        x.go(1);
        CHECK.due("isn't worn for 20", x.look(1, 2), 88);
        CHECK.due("no longer", x.look(1, 8), 0);
    }

    private static void kneelAsItIs() {
        ThirdInLine x = standing(2, "");
        x.kneel(1, 20);
        CHECK.due("it is so", x.kneel(1, 20), false);
        CHECK.due("in place of those left", x.kneel(1, 19), true);
        CHECK.due("19", x.look(1, 8), 19);
        x.go(1);
        CHECK.due("it is so now", x.kneel(1, 18), false);
        CHECK.due("longer", x.kneel(1, 19), true);
        CHECK.due("not to 0", x.kneel(1, 0), false);
        CHECK.due("19 still", x.look(1, 8), 19);
    }

    private static void coughWrongly() {
        ThirdInLine x = oneOfEach();
        for (int man : new int[] {0, 1, 3, 4, -1, 8, Integer.MIN_VALUE, Integer.MAX_VALUE}) {
            CHECK.due("can't cough " + man, x.cough(man), false);
        }
        CHECK.due("can", x.cough(2), true);
        CHECK.due("he did", x.cough(2), false);
        CHECK.due("one", x.count(14), 1);
        x.go(0);
        CHECK.due("no minute went by", x.cough(2), false);
        x.go(1);
        CHECK.due("over", x.count(14), 0);
        CHECK.due("again", x.cough(2), true);
        CHECK.due("nobody to cough", new ThirdInLine().cough(0), false);
    }

    private static void moveWrongly() {
        ThirdInLine x = oneOfEach();
        for (int kind : NO_POWERS) {
            CHECK.due("no power " + kind, x.move(kind, 5), false);
        }
        for (int kind = 0; kind < 3; kind++) {
            for (int place : NO_PLACES) {
                CHECK.due("no place " + place, x.move(kind, place), false);
            }
            CHECK.due("it is so", x.move(kind, kind), false);
            CHECK.due("stays", x.count(11 + kind), kind);
        }
        CHECK.due("nothing to undo by that", x.count(10), 1);
    }

    private static void moveToEachPlace() {
        ThirdInLine x = standing(8, "");
        for (int kind = 0; kind < 3; kind++) {
            for (int place = 7; place >= 0; place--) {
                CHECK.due("move " + kind + " to " + place, x.move(kind, place), true);
                CHECK.due("is at " + place, x.count(11 + kind), place);
                CHECK.due("held by " + place, x.holder(kind), place);
                CHECK.due("again", x.move(kind, place), false);
            }
        }
        CHECK.due("also without men", new ThirdInLine().move(0, 7), true);
    }

    private static void wasWrongly() {
        ThirdInLine x = standing(2, "");
        for (int kind : NO_POWERS) {
            CHECK.due("no power " + kind, x.was(kind, 0), -1);
        }
        for (int minute : new int[] {-1, 1, 120, Integer.MIN_VALUE, Integer.MAX_VALUE}) {
            CHECK.due("not gone by " + minute, x.was(0, minute), -1);
        }
        CHECK.due("none gone by", new ThirdInLine().was(0, 0), -1);
    }

    private static void wasTheFirstAndTheLast() {
        ThirdInLine x = Check.told("man a 9 0 90 30 9 0 1;man b 9 1 90 30 9 0 1;man c 9 1 90 30 9 0 1;well 0 1;law wear 0;");
        x.go(120);
        for (int kind = 0; kind < 3; kind++) {
            CHECK.due("nobody behind 0", x.was(kind, 0), -2);
            CHECK.due("behind 1", x.was(kind, 1), kind);
            CHECK.due("behind 118", x.was(kind, 118), kind);
            CHECK.due("behind 119", x.was(kind, 119), kind);
            CHECK.due("120 never goes by", x.was(kind, 120), -1);
        }
    }

    private static void ruledWrongly() {
        ThirdInLine x = standing(8, "");
        for (int kind : NO_POWERS) {
            CHECK.due("no power " + kind, x.ruled(0, kind), -1);
        }
        for (int man : NO_MEN) {
            CHECK.due("no man " + man, x.ruled(man, 0), -1);
        }
        CHECK.due("the last man", x.ruled(7, 2), 0);
        CHECK.due("no men", new ThirdInLine().ruled(0, 0), -1);
    }

    private static void ruledAllMinutes() {
        ThirdInLine x = Check.told("man a 9 0 90 30 9 0 0;man b 9 1 90 30 9 0 59;well 0 1;law wear 0;");
        CHECK.due("none gone by", x.ruled(0, 0), 0);
        x.go(120);
        CHECK.due("a the crown", x.ruled(0, 0), 120);
        CHECK.due("a the judge", x.ruled(0, 1), 0);
        CHECK.due("b the judge, from 59 on", x.ruled(1, 1), 61);
        CHECK.due("b the tax", x.ruled(1, 2), 0);
    }

    private static void order(String men, int... want) {
        ThirdInLine x = Check.told(men);
        x.go(1);
        for (int place = 0; place < want.length; place++) {
            CHECK.due(men + " stands " + place, x.stands(place), want[place]);
        }
        CHECK.due(men + " stand all", x.count(3), want.length);
    }

    private static void joiningByFarAgeNumber() {
        order("man a 9 1 90 30 9 0 0;man b 9 0 90 30 9 0 0;", 1, 0);
        order("man a 9 0 90 30 9 0 0;man b 99 1 90 30 9 0 0;", 0, 1);
        order("man a 9 1 90 30 9 0 0;man b 10 1 90 30 9 0 0;", 1, 0);
        order("man a 10 1 90 30 9 0 0;man b 9 1 90 30 9 0 0;", 0, 1);
        order("man b 9 1 90 30 9 0 0;man a 9 1 90 30 9 0 0;", 0, 1);
        order("man a 1 9 90 30 9 0 0;man b 99 9 90 30 9 0 0;man c 1 0 90 30 9 0 0;man d 99 0 90 30 9 0 0;"
            + "man e 1 9 90 30 9 0 0;man f 99 9 90 30 9 0 0;man g 1 0 90 30 9 0 0;man h 99 0 90 30 9 0 0;", 3, 7, 2, 6, 1, 5, 0, 4);
        ThirdInLine x = Check.told("man a 9 9 90 30 9 0 0;man b 99 0 90 30 9 0 1;well 0 1;");
        x.go(2);
        CHECK.due("who came ahead stays ahead", x.stands(0), 0);
    }

    private static void comingAtTheEdges() {
        ThirdInLine x = Check.told("man a 9 0 90 30 9 0 0;man b 9 0 90 30 9 0 59;well 0 1;law wear 0;");
        CHECK.due("not yet", x.look(0, 6), 0);
        x.go(1);
        CHECK.due("in minute 0", x.look(0, 6), 1);
        x.go(58);
        CHECK.due("not yet at 59", x.look(1, 6), 0);
        x.go(1);
        CHECK.due("in minute 59", x.look(1, 5), 1);
    }
}
