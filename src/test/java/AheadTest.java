/** Promises 19 to 27 and 33 to 35: what would be, as it goes, by chance, tried otherwise. */
public final class AheadTest {
    private static final Check CHECK = new Check();

    public static void main(String[] args) {
        served();
        servedAtTheEnd();
        asItGoes();
        asItGoesElsewhere();
        waitsAhead();
        coming();
        comingWrongly();
        decree();
        coup();
        rests();
        restsByWorth();
        restsAtTheEnd();
        best();
        bestOfTheTax();
        fairest();
        gain();
        gainByWater();
        empty();
        chance();
        triedEach();
        triedEdges();
        nothingChanges();
        CHECK.end("AheadTest");
    }

    private static void served() {
        ThirdInLine x = Check.told("man a 9 0 90 4 0 0 0;man b 9 1 90 6 0 0 0;man c 9 2 90 2 0 0 10;man d 9 2 1 2 0 0 0;man e 9 2 9 2 0 0 59;well 13 2;");
        int[] want = {1, 4, 10, -2, -2};
        for (int man = 0; man < 5; man++) {
            CHECK.due("served " + man, x.served(man), want[man]);
        }
        CHECK.due("no man", x.served(5), -1);
        CHECK.due("no man", x.served(-1), -1);
        x.go(5);
        for (int man = 0; man < 4; man++) {
            CHECK.due("or was " + man, x.served(man), want[man]);
        }
        x.out(1);
        CHECK.due("was", x.served(1), 4);
        x.join(2);
        CHECK.due("joined now", x.served(2), 5);
        x.out(2);
        CHECK.due("out", x.served(2), -2);
        CHECK.due("then the water is enough", x.served(4), 59);
    }

    private static void servedAtTheEnd() {
        ThirdInLine x = Check.told("man a 9 0 90 30 0 0 0;man b 9 1 90 30 0 0 0;man c 9 2 90 30 0 0 0;man d 9 3 90 30 0 0 0;man e 9 4 90 1 0 0 0;"
            + "well 999 1;law wear 0;");
        int[] want = {29, 59, 89, 119, -2};
        for (int man = 0; man < 5; man++) {
            CHECK.due("served " + man, x.served(man), want[man]);
        }
        x.go(120);
        for (int man = 0; man < 5; man++) {
            CHECK.due("was served " + man, x.served(man), want[man]);
        }
        CHECK.due("in the queue", x.look(4, 5), 0);
    }

    private static void asItGoes() {
        ThirdInLine x = Check.told("man a 9 0 90 8 0 0 0;man b 9 1 90 2 0 0 0;mutter 99;law need 1;");
        CHECK.due("no muttering", x.served(1), 4);
        ThirdInLine y = Check.told("man a 9 0 90 8 0 0 0;man b 9 1 90 2 0 0 0;law need 1;");
        y.go(1);
        y.cough(1);
        CHECK.due("no coughs", y.served(0), 3);
        y.kneel(1, 9);
        CHECK.due("kneeling", y.served(1), 4);
        y.go(1);
        CHECK.due("with coughs", y.served(0), -2);
        CHECK.due("with coughs", y.served(1), 1);
    }

    /** Each question goes without muttering and coughs. */
    private static void asItGoesElsewhere() {
        ThirdInLine x = Check.told("man a 9 0 90 8 0 0 0;man b 9 1 90 2 0 0 0;man c 9 2 90 2 0 0 1;man d 9 3 90 2 0 0 3;mutter 99;law need 1;");
        x.stone(0, 1, 1);
        x.stone(2, 2, 2);
        CHECK.due("came", x.came(), 1 + 1 + 3 + 59);
        x.join(0);
        x.join(1);
        x.cough(1);
        CHECK.due("coming", x.coming(2, 2, 2), 0);
        CHECK.due("gain", x.gain(1, 3), 2);
        CHECK.due("rests", x.rest(2, 3, 9, 0), 0);
        CHECK.due("best", x.best(1, 1, 4, 1), 3);
        CHECK.due("fairest", x.fairest(1, 6, 1), 4);
        CHECK.due("empty", x.empty(8, 1), 6);
        CHECK.due("tried", x.tried(3, 0, 9), 4);
    }

    /** How long he waits is known ahead, too. */
    private static void waitsAhead() {
        ThirdInLine x = Check.told("man a 9 0 90 30 0 0 0;man b 9 1 10 2 0 0 5;well 99 5;law wear wait;");
        x.served(1);
        x.go(1);
        x.join(1);
        CHECK.due("worn by 0, 1, 2, 3, 4", x.served(1), 6);
        x.undo();
        x.go(4);
        CHECK.due("comes late", x.served(1), 6);
    }

    private static ThirdInLine comers() {
        return Check.told("man a 9 0 90 4 0 0 0;man b 9 1 90 30 0 0 3;man c 9 9 90 30 0 0 50;man d 9 0 90 30 0 0 58;");
    }

    private static void coming() {
        ThirdInLine x = comers();
        int[][] asked = {{0, 0, -2}, {1, 0, 0}, {0, 1, 0}, {1, 1, -2}, {0, 2, 0}, {0, 3, 0}, {1, 3, 3}, {1, 5, 3}, {2, 5, -2}, {7, 5, -2},
            {0, 119, 106}};
        for (int[] a : asked) {
            CHECK.due("coming to " + a[0] + " behind " + a[1], x.coming(2, a[0], a[1]), a[2]);
        }
        x.go(3);
        CHECK.due("from now on", x.coming(2, 1, 3), 3);
        CHECK.due("from now on", x.coming(2, 0, 3), -2);
        CHECK.due("behind b's service", x.coming(2, 0, 17), 3);
        x.go(20);
        CHECK.due("at once", x.coming(2, 0, 23), 23);
        CHECK.due("the other one is still to come", x.coming(2, 0, 57), 44);
        CHECK.due("by another", x.coming(3, 1, 60), 51);
        CHECK.due("worn", Check.told("man a 9 0 90 30 0 0 0;man b 9 1 2 30 0 0 9;well 99 1;").coming(1, 1, 5), 5);
    }

    private static void comingWrongly() {
        ThirdInLine x = comers();
        x.go(2);
        CHECK.due("not to come", x.coming(0, 0, 5), -1);
        CHECK.due("no man", x.coming(4, 0, 5), -1);
        CHECK.due("no man", x.coming(-1, 0, 5), -1);
        CHECK.due("place 8", x.coming(2, 8, 5), -1);
        CHECK.due("place -1", x.coming(2, -1, 5), -1);
        CHECK.due("gone by", x.coming(2, 0, 1), -1);
        CHECK.due("now", x.coming(2, 0, 2), 2);
        CHECK.due("120", x.coming(2, 0, 120), -1);
        CHECK.due("119", x.coming(2, 7, 119), -2);
        x.join(2);
        CHECK.due("in the queue", x.coming(2, 0, 5), -1);
    }

    private static void decrees(ThirdInLine x, int k, int m, int coin, int men) {
        CHECK.due("coin of decree " + k + " " + m, x.decree(k, m, 0), coin);
        CHECK.due("men of decree " + k + " " + m, x.decree(k, m, 1), men);
    }

    private static void decree() {
        ThirdInLine x = Check.told("man e 9 4 90 30 0 3 0;man a 9 0 90 30 0 3 0;man b 9 1 90 30 0 4 0 yes;man c 9 2 90 30 0 0 0;man d 9 3 90 30 0 5 0;");
        decrees(x, 1, 0, 0, 0);
        decrees(x, 1, 1, -2, -2);
        x.go(1);
        decrees(x, 1, 0, 0, 0);
        decrees(x, 1, 1, 3, 2);
        decrees(x, 2, 1, 0, 0);
        decrees(x, 2, 2, 3, 2);
        decrees(x, 3, 2, 0, 8);
        decrees(x, 3, 3, 3, 10);
        decrees(x, 5, 3, 3, 9);
        decrees(x, 4, 3, 3, 10);
        decrees(x, 5, 4, 6, 11);
        decrees(x, 5, 5, 11, 27);
        decrees(x, 8, 5, 11, 27);
        decrees(x, 6, 6, -2, -2);
        decrees(x, 8, 8, -2, -2);
        decrees(x, 8, 0, 0, 0);
        decrees(x, 0, 0, -1, -1);
        decrees(x, 9, 0, -1, -1);
        decrees(x, 3, 4, -1, -1);
        decrees(x, 3, -1, -1, -1);
        CHECK.due("what 2", x.decree(3, 1, 2), -1);
        CHECK.due("what -1", x.decree(3, 1, -1), -1);
        ThirdInLine y = Check.told("man a 9 0 90 30 0 5 0;man b 9 1 90 30 0 2 0;man c 9 2 90 30 0 3 0;man d 9 3 90 30 0 0 0;man e 9 4 90 30 0 0 0;");
        y.go(1);
        decrees(y, 3, 1, 2, 2);
        decrees(y, 3, 2, 5, 6);
        decrees(y, 5, 1, 0, 8);
        decrees(y, 5, 2, 0, 24);
        decrees(y, 5, 4, 5, 30);
    }

    private static ThirdInLine plotters(String more) {
        ThirdInLine x = Check.told("man e 9 4 90 30 4 0 0;man a 9 0 90 30 4 0 0;man b 9 1 90 30 4 0 0;man c 9 2 90 30 4 0 0;man d 9 3 90 30 4 0 0;well 99 1;" + more);
        x.go(1);
        return x;
    }

    private static void coup() {
        CHECK.due("nobody", Check.told("man a 9 0 90 30 0 0 5;").coup(), -1);
        CHECK.due("half of five", plotters("").coup(), 4 + 8 + 16);
        CHECK.due("all by the ear", plotters("ear 2;").coup(), -2);
        CHECK.due("the nearest", plotters("law need 1;").coup(), 4);
        CHECK.due("the nearest two", plotters("law need 2;").coup(), 12);
        CHECK.due("four, not heard", plotters("law need 4;").coup(), -2);
        CHECK.due("four", plotters("law need 4;ear 4;").coup(), 29);
        CHECK.due("put to 1", plotters("law need 0-9;").coup(), 4);
        CHECK.due("put to 9", plotters("law need 99;ear 7;").coup(), -2);
        CHECK.due("error", plotters("law need 1/0;").coup(), 28);
        CHECK.due("place is how many", plotters("law need place-3;").coup(), 12);
        CHECK.due("guarded", plotters("guard b a;").coup(), -2);
        CHECK.due("guarded from afar", plotters("guard c a;").coup(), 28);
        ThirdInLine x = plotters("");
        x.cough(1);
        x.cough(4);
        CHECK.due("whoever coughed", x.coup(), 28);
        x.out(1);
        CHECK.due("half of four", x.coup(), 8 + 16);
        x.out(2);
        x.out(3);
        CHECK.due("half of two", x.coup(), 1);
        x.out(4);
        CHECK.due("alone", x.coup(), -2);
        x.out(0);
        CHECK.due("nobody", x.coup(), -1);
    }

    private static void allRests(String what, ThirdInLine x, int one, int other, int n, int... want) {
        CHECK.due(what + ", how many", x.rests(one, other, n), want.length);
        for (int k = 0; k < want.length; k++) {
            CHECK.due(what + ", rest " + k, x.rest(one, other, n, k), want[k]);
        }
        CHECK.due(what + ", no more", x.rest(one, other, n, want.length), -2);
    }

    private static void rests() {
        ThirdInLine x = Check.told("man a 9 0 90 2 0 0 5;man b 9 1 90 2 0 0 5;man c 9 1 90 2 0 0 0;");
        x.go(1);
        allRests("served", x, 0, 1, 10, 101, 102);
        allRests("served, the other way", x, 1, 0, 10, 101, 201);
        allRests("for one minute", x, 0, 1, 1, 101);
        allRests("for 60", x, 0, 1, 60, 101, 102);
        int[][] wrong = {{0, 0, 9}, {0, 2, 9}, {2, 0, 9}, {0, 3, 9}, {-1, 0, 9}, {0, 1, 0}, {0, 1, 61}, {0, 1, -1}};
        for (int[] w : wrong) {
            CHECK.due("rests " + w[0] + " " + w[1] + " " + w[2], x.rests(w[0], w[1], w[2]), -1);
            CHECK.due("rest " + w[0] + " " + w[1] + " " + w[2], x.rest(w[0], w[1], w[2], 0), -1);
        }
        CHECK.due("k -1", x.rest(0, 1, 9, -1), -1);
        CHECK.due("k 99", x.rest(0, 1, 9, 99), -2);
        CHECK.due("k greatest", x.rest(0, 1, 9, Integer.MAX_VALUE), -2);
    }

    private static void restsByWorth() {
        // whoever comes late still stands behind four minutes, but to be served is better
        ThirdInLine w = Check.told("man a 9 0 90 4 0 0 5;man b 9 1 90 30 0 0 5;");
        CHECK.due("asked at once", w.rest(0, 1, 4, 1), 1);
        allRests("served or standing", w, 0, 1, 4, 0, 1, 2, 3);
        // neither can be served: each stands at a place, whoever comes at 0 or 1 stands behind 2 minutes
        ThirdInLine x = Check.told("man a 9 0 90 30 0 0 5;man b 9 1 90 30 0 0 5;");
        allRests("places", x, 0, 1, 2, 0, 1);
        // behind a, who stands for long, b is out unless he comes at 2; c stands ahead of him if he comes at 0 or 1
        ThirdInLine y = Check.told("man a 9 0 90 30 0 0 0;man b 9 1 2 30 0 0 5;man c 9 2 90 30 0 0 50;");
        allRests("worn out", y, 1, 2, 3, 200, 201);
        // nobody can have anything: every pair rests
        ThirdInLine z = Check.told("man a 9 0 90 30 0 0 0;man b 9 1 1 30 0 0 5;man c 9 2 1 30 0 0 50;");
        allRests("nothing to have", z, 1, 2, 9, 0, 1, 2, 3, 100, 101, 102, 103, 200, 201, 202, 203, 300, 301, 302, 303);
    }

    private static void restsAtTheEnd() {
        ThirdInLine x = Check.told("man a 9 0 90 2 0 0 59;man b 9 1 90 2 0 0 59;");
        x.go(57);
        allRests("at 57", x, 0, 1, 60, 5757, 5758);
        x.go(2);
        allRests("at 59", x, 0, 1, 60, 5959);
        x.go(1);
        CHECK.due("at 60", x.rests(0, 1, 1), -1);
        CHECK.due("at 60", x.rest(0, 1, 1, 0), -1);
    }

    private static void bests(ThirdInLine x, int kind, int man, int n, int place, int minutes) {
        CHECK.due("best " + kind + " " + man + " " + n, x.best(kind, man, n, 0), place);
        CHECK.due("best " + kind + " " + man + " " + n + ", minutes", x.best(kind, man, n, 1), minutes);
    }

    private static void best() {
        ThirdInLine x = Check.told("man a 9 0 90 6 0 0 0;man b 9 1 90 30 0 0 0;man c 9 1 90 30 0 0 59;power crown 5;");
        bests(x, 0, 0, 6, 0, 2);
        bests(x, 0, 1, 6, 0, 4);
        bests(x, 0, 1, 3, 1, 2);
        bests(x, 0, 1, 4, 0, 2);
        bests(x, 1, 1, 1, 1, 1);
        bests(x, 0, 2, 6, 0, 0);
        bests(x, 0, 1, 60, 0, 15);
        CHECK.due("the power stays", x.count(11), 5);
        int[][] wrong = {{3, 0, 6, 0}, {-1, 0, 6, 0}, {0, 3, 6, 0}, {0, -1, 6, 0}, {0, 0, 0, 0}, {0, 0, 61, 0}, {0, 0, 6, 2}, {0, 0, 6, -1}};
        for (int[] w : wrong) {
            CHECK.due("best " + java.util.Arrays.toString(w), x.best(w[0], w[1], w[2], w[3]), -1);
        }
        x.go(61);
        CHECK.due("60 of 59", x.best(0, 0, 60, 0), -1);
        bests(x, 0, 2, 59, 0, 12);
    }

    private static void bestOfTheTax() {
        ThirdInLine x = Check.told("man a 9 0 90 30 9 0 0;man b 9 1 5 30 1 0 0;well 99 1;levies 1;law wear coin;");
        bests(x, 2, 1, 6, 1, 1);
        bests(x, 1, 1, 6, 1, 4);
        bests(x, 2, 0, 6, 0, 6);
    }

    private static void fair(ThirdInLine x, int kind, int n, int place, int men) {
        CHECK.due("fairest " + kind + " " + n, x.fairest(kind, n, 0), place);
        CHECK.due("fairest " + kind + " " + n + ", men", x.fairest(kind, n, 1), men);
    }

    private static void fairest() {
        ThirdInLine x = Check.told("man a 9 0 90 6 0 0 1;man b 9 1 90 6 0 0 1;man c 9 2 90 6 0 0 1;man d 9 2 90 6 0 0 1;");
        fair(x, 0, 1, 0, 0);
        fair(x, 0, 2, 0, 1);
        fair(x, 0, 4, 0, 2);
        fair(x, 1, 7, 0, 3);
        fair(x, 1, 60, 0, 4);
        int[][] wrong = {{3, 6, 0}, {-1, 6, 0}, {0, 0, 0}, {0, 61, 0}, {0, 6, 2}, {0, 6, -1}};
        for (int[] w : wrong) {
            CHECK.due("fairest " + java.util.Arrays.toString(w), x.fairest(w[0], w[1], w[2]), -1);
        }
        x.go(61);
        CHECK.due("60 of 59", x.fairest(0, 60, 0), -1);
        fair(x, 0, 59, 0, 0);
        // once b is worn out c stands at place 1, which so sees two men, place 0 but one
        ThirdInLine y = Check.told("man a 9 0 90 30 9 0 0;man b 9 1 3 30 9 0 0;man c 9 2 9 30 9 0 0;well 99 1;");
        fair(y, 0, 2, 0, 1);
        fair(y, 0, 3, 1, 2);
        ThirdInLine z = Check.told("man a 9 0 90 30 9 0 0;man b 9 1 4 30 1 0 0;man c 9 2 50 30 0 0 0;well 99 1;levies 1;law wear coin;");
        fair(z, 2, 3, 1, 2);
        fair(z, 1, 3, 0, 1);
    }

    private static void gain() {
        ThirdInLine x = Check.told("man a 9 0 90 8 0 0 0;man b 9 1 90 2 0 0 0;man c 9 2 90 2 0 0 0;man d 9 2 90 2 0 0 2;man e 9 2 90 30 0 0 9;");
        CHECK.due("nobody there", x.gain(0, 9), -1);
        x.go(1);
        CHECK.due("from 1 on", x.gain(1, 10), 6);
        CHECK.due("from 2 on", x.gain(2, 10), 4);
        CHECK.due("in one minute", x.gain(1, 1), 2);
        CHECK.due("in two", x.gain(1, 2), 6);
        CHECK.due("all", x.gain(0, 10), 0);
        CHECK.due("nobody there", x.gain(3, 10), -1);
        CHECK.due("place -1", x.gain(-1, 10), -1);
        CHECK.due("place 8", x.gain(8, 10), -1);
        CHECK.due("n 0", x.gain(1, 0), -1);
        CHECK.due("n 61", x.gain(1, 61), -1);
        CHECK.due("n 60", x.gain(1, 60), 6);
        x.go(59);
        x.join(4);
        CHECK.due("gone", x.gain(0, 60), -1);
        ThirdInLine y = Check.told("man a 9 0 90 30 0 0 0;man b 9 1 90 9 0 0 0;well 999 1;law wear 0;");
        y.go(28);
        CHECK.due("60 left of it", y.gain(1, 60), 2);
        y.go(3);
        CHECK.due("alone", y.gain(0, 60), 0);
    }

    private static void gainByWater() {
        ThirdInLine x = Check.told("man a 9 0 90 8 0 0 0;man b 9 1 90 3 0 0 0;man c 9 2 90 4 0 0 0;well 9 2;");
        x.go(1);
        // 7 are left: a takes 6 of it, so as it goes nobody else is served; of their own b has 3 and c 4
        CHECK.due("with as much water", x.gain(1, 60), 6);
        CHECK.due("not then", x.gain(2, 2), 4);
        CHECK.due("not in one minute", x.gain(2, 1), 0);
        // alone b isn't taxed, his patience isn't worn; c comes to place 1 of that queue
        ThirdInLine y = Check.told("man a 9 0 90 20 0 0 0;man b 9 1 3 2 5 0 0;man c 9 2 90 4 5 0 0;");
        y.go(1);
        CHECK.due("out as it goes", y.served(1), -2);
        CHECK.due("served apart", y.gain(1, 9), 6);
        // who comes goes to the first well alone
        ThirdInLine z = Check.told("man a 9 0 90 20 0 0 0;man b 9 1 90 6 5 0 0;man c 9 0 1 4 5 0 1;");
        z.go(1);
        CHECK.due("nobody comes to it", z.gain(1, 9), 2);
        // would d come to the second queue, c would be taxed there and worn out
        ThirdInLine d = Check.told("man a 9 0 90 30 9 0 0;man b 9 1 90 8 9 0 0;man c 9 2 9 2 9 0 0;man d 9 3 90 2 9 0 1;"
            + "power tax 2;levies 1;law levy 99;law wear 9*(coin=0);");
        d.move(2, 7);
        d.go(1);
        d.move(2, 2);
        CHECK.due("nobody comes to it", d.gain(1, 9), 6);
    }

    private static void empties(ThirdInLine x, int n, int many, int first) {
        CHECK.due("empty " + n, x.empty(n, 0), many);
        CHECK.due("first empty of " + n, x.empty(n, 1), first);
    }

    private static void empty() {
        ThirdInLine x = Check.told("man a 9 0 90 4 0 0 2;man b 9 0 90 2 0 0 5;mutter 9;");
        empties(x, 5, 4, 0);
        empties(x, 1, 1, 0);
        x.go(2);
        empties(x, 1, 0, -2);
        empties(x, 3, 2, 3);
        empties(x, 60, 59, 3);
        CHECK.due("n 0", x.empty(0, 0), -1);
        CHECK.due("n 61", x.empty(61, 0), -1);
        CHECK.due("what 2", x.empty(5, 2), -1);
        CHECK.due("what -1", x.empty(5, -1), -1);
        x.go(59);
        CHECK.due("60 of 59", x.empty(60, 0), -1);
        empties(x, 59, 59, 61);
        x.go(58);
        empties(x, 1, 1, 119);
        x.go(1);
        CHECK.due("1 of 0", x.empty(1, 0), -1);
    }

    /**
     * Three numbers are drawn each time; b stays if the first of them isn't below what is muttered. From 0 on
     * these are 0 17 45 10 59 75 12 91 96 12, from 77777 on 65 63 29 67 1 84 80 80 94 21, from the greatest
     * one on 29 18 80 34 35 38 87 4 58 12.
     */
    private static void chance() {
        String men = "man a 9 0 90 4 0 0 0;man b 9 1 90 2 0 0 0;";
        ThirdInLine x = Check.told(men + "mutter 50;seed 3;");
        CHECK.due("a", x.chance(0, 0, 3), 10);
        CHECK.due("b", x.chance(0, 1, 3), 4);
        CHECK.due("b by another seed", x.chance(77777, 1, 3), 7);
        CHECK.due("b by the greatest seed", x.chance(2147483647, 1, 3), 3);
        CHECK.due("not yet", x.chance(0, 1, 2), 0);
        CHECK.due("a in two", x.chance(0, 0, 2), 10);
        CHECK.due("a in one", x.chance(0, 0, 1), 0);
        CHECK.due("no muttering", Check.told(men).chance(0, 1, 3), 10);
        ThirdInLine y = Check.told(men + "law need 1;");
        y.go(1);
        y.cough(1);
        CHECK.due("no coughs", y.chance(0, 0, 1), 10);
        int[][] wrong = {{-1, 0, 3}, {Integer.MIN_VALUE, 0, 3}, {0, 2, 3}, {0, -1, 3}, {0, 0, 0}, {0, 0, 61}};
        for (int[] w : wrong) {
            CHECK.due("chance " + java.util.Arrays.toString(w), x.chance(w[0], w[1], w[2]), -1);
        }
        CHECK.due("the own numbers stay", x.go(1), 1);
        CHECK.due("seed 3: b", x.look(1, 6), 3);
        x.go(60);
        CHECK.due("was served", x.chance(0, 0, 59), 10);
        CHECK.due("60 of 59", x.chance(0, 0, 60), -1);
    }

    private static void triedEach() {
        ThirdInLine x = Check.told("man a 9 0 90 8 9 0 0;man b 9 1 3 2 0 0 0;levies 1;power tax 1;law wear coin;");
        CHECK.due("b is worn by what he takes", x.served(1), -2);
        CHECK.due("nothing levied", x.tried(0, 0, 10), 2);
        CHECK.due("nothing levied, four minutes", x.tried(0, 0, 4), 1);
        CHECK.due("endless patience", x.tried(1, 0, 10), 2);
        CHECK.due("a out", x.tried(2, 0, 10), 1);
        CHECK.due("b out", x.tried(2, 1, 10), 1);
        CHECK.due("b out, a not yet", x.tried(2, 1, 3), 0);
        CHECK.due("rate", x.tried(3, 0, 3), 1);
        CHECK.due("rate, not in two", x.tried(3, 0, 2), 0);
        x.go(1);
        CHECK.due("a out of the queue", x.tried(2, 0, 1), 1);
        ThirdInLine y = Check.told("man a 9 0 90 4 9 0 0;man b 9 1 9 2 0 0 50;well 3 2;");
        CHECK.due("endless water", y.tried(4, 0, 60), 2);
        CHECK.due("endless water, two minutes", y.tried(4, 0, 2), 1);
        CHECK.due("rate doesn't help", y.tried(3, 0, 60), 0);
        CHECK.due("a out leaves water", y.tried(2, 0, 60), 1);
        ThirdInLine z = Check.told("man a 9 3 90 2 9 0 3;man b 9 2 9 4 0 0 50;man c 9 9 1 2 0 0 9;");
        CHECK.due("all come now", z.tried(5, 0, 3), 2);
        CHECK.due("all come now, by far", z.tried(5, 0, 2), 1);
        CHECK.due("all come now, by far", z.tried(5, 0, 1), 0);
        z.go(5);
        CHECK.due("the others come now", z.tried(5, 0, 2), 2);
        CHECK.due("muttering and coughs apart", z.tried(1, 0, 5), 2);
    }

    private static void triedEdges() {
        ThirdInLine x = Check.told("man a 9 0 90 2 9 0 0;man b 9 1 90 2 0 0 0;man c 9 1 90 2 0 0 59;");
        x.go(1);
        for (int what = 0; what < 6; what++) {
            if (what != 2) {
                CHECK.due("none go by " + what, x.tried(what, 0, 0), 1);
                CHECK.due("i 1 of " + what, x.tried(what, 1, 0), -1);
                CHECK.due("i -1 of " + what, x.tried(what, -1, 0), -1);
            }
            CHECK.due("n -1 of " + what, x.tried(what, 0, -1), -1);
            CHECK.due("n 61 of " + what, x.tried(what, 0, 61), -1);
        }
        CHECK.due("none go by, b out", x.tried(2, 1, 0), 1);
        CHECK.due("c out", x.tried(2, 2, 60), 2);
        CHECK.due("who was served is out", x.tried(2, 0, 60), 2);
        CHECK.due("no man", x.tried(2, 3, 5), -1);
        CHECK.due("no man", x.tried(2, -1, 5), -1);
        CHECK.due("what 6", x.tried(6, 0, 5), -1);
        CHECK.due("what -1", x.tried(-1, 0, 5), -1);
        x.go(60);
        CHECK.due("60 of 59", x.tried(0, 0, 60), -1);
        CHECK.due("59 of 59", x.tried(0, 0, 59), 3);
        x.go(59);
        CHECK.due("0 of 0", x.tried(5, 0, 0), 3);
        CHECK.due("1 of 0", x.tried(5, 0, 1), -1);
    }

    private static void nothingChanges() {
        ThirdInLine x = Check.told("man a 9 0 90 4 9 1 0;man b 9 1 9 2 7 2 0;man c 9 1 9 2 5 3 9;man d 9 1 9 2 5 3 9;mutter 50;seed 1;levies 1;law need 1;");
        x.go(1);
        x.cough(1);
        x.kneel(1, 4);
        long before = state(x);
        x.served(1);
        x.coming(2, 1, 30);
        x.decree(2, 2, 0);
        x.coup();
        x.rests(2, 3, 20);
        x.rest(2, 3, 20, 0);
        x.best(2, 1, 20, 0);
        x.fairest(2, 20, 0);
        x.gain(1, 20);
        x.came();
        x.one(0, 0);
        x.empty(20, 1);
        x.chance(5, 1, 20);
        for (int what = 0; what < 6; what++) {
            x.tried(what, 0, 20);
        }
        CHECK.due("asking changes nothing", state(x), before);
    }

    private static long state(ThirdInLine x) {
        long sum = 0;
        for (int what = 0; what < 15; what++) {
            sum = sum * 31 + x.count(what);
        }
        for (int man = 0; man < 4; man++) {
            for (int what = 0; what < 11; what++) {
                sum = sum * 31 + x.look(man, what);
            }
        }
        return sum;
    }
}
