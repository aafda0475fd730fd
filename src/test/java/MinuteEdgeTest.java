import java.math.BigInteger;

/** The edges of how a MINUTE goes by (==== 2, (1) to (7)) and of what laws are worth: a method for each. */
public final class MinuteEdgeTest {
    private static final Check CHECK = new Check();

    public static void main(String[] args) {
        heardByEar();
        needIsHalf();
        needIsPut();
        needWithAnError();
        needOfWhoComesNow();
        coughsOfTheFirst();
        coughsOfWhoLeft();
        coughsAreOver();
        guardRightBehind();
        waterAtTheEdges();
        bucketAtTheEdges();
        servedAtTheEdges();
        leviedWhen();
        leviedInTheLastMinute();
        levyIsPut();
        levyAsFarAsCoinGoes();
        levyByNobody();
        levyWithAnError();
        wearIsPut();
        wearWithAnError();
        wearOfAllButTheFirst();
        patienceAtTheEdges();
        firstOfNowStays();
        whoLeftHasNothing();
        mutterAtTheEdges();
        mutterLeavesOne();
        mutterNever();
        numbersByBits();
        numbersAreTold();
        valuesAtTheEdges();
        productsBeyondALong();
        divisionIsCut();
        bothSidesAreWorkedOut();
        namesOfNeed();
        waitFromJoiningOn();
        CHECK.end("MinuteEdgeTest");
    }

    /** Men a, b .. who stand in this order for long. */
    private static ThirdInLine standing(int many, String more) {
        StringBuilder men = new StringBuilder();
        for (int i = 0; i < many; i++) {
            men.append("man ").append((char) ('a' + i)).append(" 9 ").append(i).append(" 90 30 9 0 0;");
        }
        ThirdInLine x = Check.told(men + "well 999 1;" + more);
        x.go(1);
        return x;
    }

    private static boolean firstIsOut(ThirdInLine x, int... coughers) {
        int first = x.stands(0);
        for (int man : coughers) {
            CHECK.due("coughs " + man, x.cough(man), true);
        }
        x.go(1);
        return x.look(first, 6) == 3;
    }

    private static int[] from(int first, int last) {
        int[] men = new int[last - first + 1];
        for (int i = 0; i < men.length; i++) {
            men[i] = first + i;
        }
        return men;
    }

    private static void heardByEar() {
        for (int ear = 1; ear <= 7; ear++) {
            String law = "law need 1;ear " + ear + ";";
            CHECK.due("the farthest of ear " + ear, firstIsOut(standing(8, law), ear), true);
            if (ear < 7) {
                CHECK.due("one beyond ear " + ear, firstIsOut(standing(8, law), ear + 1), false);
            }
        }
        CHECK.due("ear 3 without", firstIsOut(standing(8, "law need 1;"), 3), true);
        CHECK.due("ear 3 without, one beyond", firstIsOut(standing(8, "law need 1;"), 4), false);
    }

    /** Half of all in the QUEUE, rounded up. */
    private static void needIsHalf() {
        int[] half = {0, 1, 1, 2, 2, 3, 3, 4, 4};
        for (int many = 2; many <= 8; many++) {
            CHECK.due("half of " + many, firstIsOut(standing(many, "ear 7;"), from(1, half[many])), true);
            CHECK.due("fewer than half of " + many, firstIsOut(standing(many, "ear 7;"), from(1, half[many] - 1)), false);
        }
        CHECK.due("one alone", firstIsOut(standing(1, "ear 7;"), 0), false);
    }

    private static void needIsPut() {
        for (String least : new String[] {"0", "1", "0-1", "0-9999*9999"}) {
            CHECK.due("one for need " + least, firstIsOut(standing(8, "law need " + least + ";"), 1), true);
            CHECK.due("none for need " + least, firstIsOut(standing(8, "law need " + least + ";")), false);
        }
        CHECK.due("two for 2", firstIsOut(standing(8, "law need 2;"), 1, 2), true);
        CHECK.due("one for 2", firstIsOut(standing(8, "law need 2;"), 1), false);
        CHECK.due("seven for 7", firstIsOut(standing(8, "ear 7;law need 7;"), from(1, 7)), true);
        CHECK.due("six for 7", firstIsOut(standing(8, "ear 7;law need 7;"), from(1, 6)), false);
        for (String most : new String[] {"8", "9", "10", "9999", "9999*9999*9999"}) {
            CHECK.due("seven for " + most, firstIsOut(standing(8, "ear 7;law need " + most + ";"), from(1, 7)), false);
        }
    }

    private static void needWithAnError() {
        for (String error : new String[] {"1/0", "9999*9999*9999*9999", "0-9999*9999*9999*9999"}) {
            CHECK.due("half with " + error, firstIsOut(standing(5, "law need " + error + ";"), 1, 2, 3), true);
            CHECK.due("fewer with " + error, firstIsOut(standing(5, "law need " + error + ";"), 1, 2), false);
        }
    }

    /** Who joins in (1) is in the QUEUE in (2). */
    private static void needOfWhoComesNow() {
        String two = "man a 9 0 90 30 9 0 0;man b 9 1 90 30 9 0 0;";
        ThirdInLine x = Check.told(two + "man c 9 1 90 30 9 0 2;");
        x.go(1);
        CHECK.due("one of two", firstIsOut(x, 1), true);
        ThirdInLine y = Check.told(two + "man c 9 1 90 30 9 0 1;");
        y.go(1);
        CHECK.due("one of three", firstIsOut(y, 1), false);
        ThirdInLine z = Check.told("man a 9 0 90 30 9 0 0;man b 9 1 90 30 9 0 1;guard b a;law need 1;man c 9 2 90 30 9 0 0;");
        z.go(1);
        CHECK.due("b comes behind c: no guard", firstIsOut(z, 2), true);
    }

    private static void coughsOfTheFirst() {
        CHECK.due("the first's own doesn't count", firstIsOut(standing(2, ""), 0), false);
        CHECK.due("nor with another's", firstIsOut(standing(5, ""), 0, 1, 2), false);
        ThirdInLine x = standing(2, "");
        x.cough(1);
        x.swap(0, 1, 0);
        CHECK.due("who coughed is first now", firstIsOut(x), false);
        ThirdInLine y = standing(2, "");
        y.cough(0);
        y.swap(0, 1, 0);
        CHECK.due("who coughed is second now", firstIsOut(y), true);
    }

    private static void coughsOfWhoLeft() {
        ThirdInLine x = standing(3, "law need 1;");
        x.cough(1);
        x.out(1);
        CHECK.due("no cough of who is out", x.look(1, 9), 0);
        CHECK.due("no cough at all", x.count(14), 0);
        CHECK.due("not heard", firstIsOut(x), false);
    }

    private static void coughsAreOver() {
        ThirdInLine x = standing(5, "");
        CHECK.due("two are too few", firstIsOut(x, 1, 2), false);
        CHECK.due("over", x.count(14), 0);
        CHECK.due("one more is too few then", firstIsOut(x, 3), false);
        CHECK.due("three at once", firstIsOut(x, 1, 2, 3), true);
        CHECK.due("over, too", x.count(14), 0);
        CHECK.due("the next one stays", firstIsOut(x), false);
        ThirdInLine y = standing(5, "guard b a;");
        CHECK.due("guarded", firstIsOut(y, 1, 2, 3), false);
        CHECK.due("over", y.count(14), 0);
    }

    private static void guardRightBehind() {
        CHECK.due("right behind", firstIsOut(standing(3, "guard b a;law need 1;"), 2), false);
        CHECK.due("right behind, coughing himself", firstIsOut(standing(3, "guard b a;law need 1;"), 1), false);
        CHECK.due("two behind", firstIsOut(standing(3, "guard c a;law need 1;"), 1), true);
        CHECK.due("another one", firstIsOut(standing(3, "guard b c;law need 1;"), 1), true);
        CHECK.due("the other way", firstIsOut(standing(3, "guard a b;law need 1;"), 1), true);
        ThirdInLine x = standing(3, "guard c a;law need 1;");
        x.swap(1, 2, 0);
        CHECK.due("right behind by a swap", firstIsOut(x, 1), false);
        ThirdInLine y = standing(3, "guard b a;law need 1;");
        y.out(1);
        CHECK.due("the guard stepped out", firstIsOut(y, 2), true);
    }

    private static void waterAtTheEdges() {
        int[][] rows = {{0, 1, 0, 0}, {1, 1, 1, 0}, {2, 3, 2, 0}, {3, 3, 3, 0}, {4, 3, 3, 1}, {999, 9, 9, 990}};
        for (int[] row : rows) {
            ThirdInLine x = Check.told("man a 9 0 90 30 9 0 0;well " + row[0] + " " + row[1] + ";");
            x.go(1);
            CHECK.due("water " + row[0] + ", rate " + row[1], x.look(0, 3), row[2]);
            CHECK.due("water " + row[0] + ", rate " + row[1] + ", left", x.count(6), row[3]);
        }
        ThirdInLine x = new ThirdInLine();
        x.go(120);
        CHECK.due("nobody gets any", x.count(6), 200);
    }

    private static void bucketAtTheEdges() {
        int[][] rows = {{1, 1, 1}, {1, 9, 1}, {8, 9, 8}, {9, 9, 9}, {10, 9, 9}};
        for (int[] row : rows) {
            ThirdInLine x = Check.told("man a 9 0 90 " + row[0] + " 9 0 0;well 100 " + row[1] + ";");
            x.go(1);
            CHECK.due("bucket " + row[0] + ", rate " + row[1], x.look(0, 3), row[2]);
            CHECK.due("bucket " + row[0] + ", rate " + row[1] + ", water left", x.count(6), 100 - row[2]);
            CHECK.due("bucket " + row[0] + ", rate " + row[1] + ", served", x.look(0, 6), row[2] == row[0] ? 2 : 1);
        }
    }

    private static void servedAtTheEdges() {
        ThirdInLine x = Check.told("man a 9 0 90 30 9 0 0;man b 9 1 90 1 9 0 0;well 31 1;");
        x.go(29);
        CHECK.due("29 of 30", x.look(0, 6), 1);
        x.go(1);
        CHECK.due("30 of 30", x.look(0, 6), 2);
        CHECK.due("the last of the water is left", x.count(6), 1);
        CHECK.due("not both in one minute", x.look(1, 6), 1);
        x.go(1);
        CHECK.due("the last of it", x.look(1, 6), 2);
        CHECK.due("none left", x.count(6), 0);
        ThirdInLine y = Check.told("man a 9 0 90 2 9 0 0;well 1 2;");
        y.go(120);
        CHECK.due("never full", y.look(0, 6), 1);
    }

    private static ThirdInLine taxed(int levies) {
        return Check.told("man a 9 0 90 30 99 0 0;man b 9 1 90 30 0 0 0;well 0 1;power tax 1;law wear 0;levies " + levies + ";");
    }

    private static void leviedWhen() {
        ThirdInLine x = taxed(30);
        int[] minutes = {1, 29, 1, 29, 1, 29, 1, 29};
        int[] coin = {98, 98, 97, 97, 96, 96, 95, 95};
        for (int i = 0; i < minutes.length; i++) {
            x.go(minutes[i]);
            CHECK.due("levied at 0, 30, 60, 90: " + i, x.look(0, 4), coin[i]);
        }
        ThirdInLine y = taxed(1);
        for (int t = 1; t <= 99; t++) {
            y.go(1);
            CHECK.due("levied each minute", y.look(0, 4), 99 - t);
        }
        y.go(1);
        CHECK.due("nothing left", y.look(0, 4), 0);
        CHECK.due("all taken", y.look(1, 4), 99);
        ThirdInLine z = taxed(29);
        z.go(29);
        CHECK.due("levies 29, not in 28", z.look(0, 4), 98);
        z.go(1);
        CHECK.due("levies 29, in 29", z.look(0, 4), 97);
    }

    private static void leviedInTheLastMinute() {
        ThirdInLine x = taxed(17);
        x.go(119);
        CHECK.due("0 to 102 by 17", x.look(0, 4), 92);
        x.go(1);
        CHECK.due("119 is 7 times 17", x.look(0, 4), 91);
    }

    /** b pays a, c pays a: a has 297; the last one takes. */
    private static int leviedOfMany(String levy) {
        ThirdInLine x = Check.told("man a 9 0 90 30 99 0 0;man b 9 1 90 30 99 0 0;man c 9 2 90 30 99 0 0;man d 9 3 90 30 0 0 0;well 0 1;power tax 7;levies 1;"
            + "law levy " + levy + ";");
        x.go(1);
        x.swap(1, 0, 99);
        x.swap(2, 0, 99);
        x.move(2, 3);
        CHECK.due("d is last", x.stands(3), 3);
        CHECK.due("a has 297", x.look(0, 4), 297);
        x.go(1);
        CHECK.due("nothing is lost by " + levy, x.count(7), 297);
        return 297 - x.look(0, 4);
    }

    private static void levyIsPut() {
        String[] texts = {"0-9999*9999", "0-1", "0", "1", "98", "99", "100", "9999", "9999*9999*9999"};
        int[] want = {0, 0, 0, 1, 98, 99, 99, 99, 99};
        for (int i = 0; i < texts.length; i++) {
            CHECK.due("levied by " + texts[i], leviedOfMany(texts[i]), want[i]);
        }
    }

    private static void levyAsFarAsCoinGoes() {
        int[][] rows = {{0, 5, 0}, {4, 5, 4}, {5, 5, 5}, {6, 5, 5}, {99, 99, 99}, {98, 99, 98}, {0, 0, 0}};
        for (int[] row : rows) {
            ThirdInLine x = Check.told("man a 9 0 90 30 " + row[0] + " 0 0;man b 9 1 90 30 0 0 0;power tax 1;law levy " + row[1] + ";");
            x.go(1);
            CHECK.due("coin " + row[0] + ", levy " + row[1], x.look(1, 4), row[2]);
            CHECK.due("coin " + row[0] + ", levy " + row[1] + ", left", x.look(0, 4), row[0] - row[2]);
        }
    }

    private static void levyByNobody() {
        for (int place = 0; place < 8; place++) {
            ThirdInLine x = Check.told("man a 9 0 90 30 9 0 0;man b 9 1 90 30 9 0 0;power tax " + place + ";");
            x.go(1);
            CHECK.due("tax at " + place, x.look(0, 4), place == 0 ? 10 : place == 1 ? 8 : 9);
        }
        ThirdInLine y = Check.told("man a 9 0 90 30 9 0 0;power tax 0;");
        y.go(1);
        CHECK.due("alone he takes of nobody", y.look(0, 4), 9);
    }

    private static void levyWithAnError() {
        CHECK.due("/ by 0", leviedOfMany("5/0"), 1);
        CHECK.due("too great", leviedOfMany("9999*9999*9999*9999"), 1);
        CHECK.due("too small", leviedOfMany("0-9999*9999*9999*9999"), 1);
        CHECK.due("another one's error: a stands at 2, c at 1", leviedOfMany("7/(place-1)"), 7);
    }

    private static int wornBy(String wear) {
        ThirdInLine x = Check.told("man a 9 0 90 30 9 0 0;man b 9 1 90 30 9 0 0;power tax 7;law wear " + wear + ";");
        x.go(1);
        CHECK.due("the first isn't by " + wear, x.look(0, 2), 90);
        return 90 - x.look(1, 2);
    }

    private static void wearIsPut() {
        String[] texts = {"0-9999*9999", "0-1", "0", "1", "8", "9", "10", "9999", "9999*9999*9999"};
        int[] want = {0, 0, 0, 1, 8, 9, 9, 9, 9};
        for (int i = 0; i < texts.length; i++) {
            CHECK.due("worn by " + texts[i], wornBy(texts[i]), want[i]);
        }
    }

    private static void wearWithAnError() {
        CHECK.due("/ by 0", wornBy("5/0"), 1);
        CHECK.due("too great", wornBy("9999*9999*9999*9999"), 1);
        CHECK.due("too small", wornBy("0-9999*9999*9999*9999"), 1);
    }

    private static void wearOfAllButTheFirst() {
        ThirdInLine x = standing(8, "law wear place;");
        for (int man = 0; man < 8; man++) {
            CHECK.due("worn by his place " + man, x.look(man, 2), 90 - man);
        }
        x.kneel(7, 1);
        x.go(1);
        CHECK.due("who kneels isn't", x.look(7, 2), 83);
        CHECK.due("who doesn't is", x.look(6, 2), 78);
    }

    private static void patienceAtTheEdges() {
        int[] patience = {1, 2, 3, 4, 5};
        int[] states = {3, 3, 3, 1, 1};
        int[] left = {-2, -1, 0, 1, 2};
        for (int i = 0; i < patience.length; i++) {
            ThirdInLine x = Check.told("man a 9 0 90 30 9 0 0;man b 9 1 " + patience[i] + " 30 9 0 0;law wear 3;");
            x.go(1);
            CHECK.due("patience " + patience[i], x.look(1, 6), states[i]);
            CHECK.due("patience " + patience[i] + " left", x.look(1, 2), left[i]);
        }
        ThirdInLine y = Check.told("man a 9 0 90 30 9 0 0;man b 9 1 99 30 9 0 0;well 0 1;");
        y.go(98);
        CHECK.due("99 for 98 minutes", y.look(1, 6), 1);
        y.go(1);
        CHECK.due("99 for 99 minutes", y.look(1, 6), 3);
    }

    private static void firstOfNowStays() {
        ThirdInLine x = Check.told("man a 9 0 1 1 9 0 0;man b 9 1 1 30 9 0 0;man c 9 2 1 30 9 0 0;");
        x.go(1);
        CHECK.due("a is served", x.look(0, 6), 2);
        CHECK.due("b has no patience left", x.look(1, 2), 0);
        CHECK.due("b is first of now", x.look(1, 5), 0);
        CHECK.due("c is out", x.look(2, 6), 3);
        x.go(1);
        CHECK.due("b stays first", x.look(1, 5), 0);
        CHECK.due("b isn't worn any more", x.look(1, 2), 0);
    }

    /** From seed 0 on the numbers modulo 100 are 0 68 88 17 98 27. */
    private static int[] mutteredAt(int mutter, int minutes) {
        ThirdInLine x = Check.told("man a 9 0 90 30 0 0 0;man b 9 1 90 30 0 0 0;man c 9 2 90 30 0 0 0;man d 9 3 90 30 0 0 0;man e 9 4 90 30 0 0 0;"
            + "man f 9 5 90 30 0 0 0;man g 9 6 90 30 0 0 0;man h 9 7 90 30 0 0 0;well 0 1;mutter " + mutter + ";");
        int[] left = new int[minutes];
        for (int t = 0; t < minutes; t++) {
            x.go(1);
            left[t] = x.count(3);
        }
        return left;
    }

    private static void mutterAtTheEdges() {
        int[] mutters = {0, 1, 17, 18, 27, 28, 68, 69, 88, 89, 98, 99};
        int[][] want = {{8, 8, 8, 8, 8, 8}, {7, 7, 7, 7, 7, 7}, {7, 7, 7, 7, 7, 7}, {7, 7, 7, 6, 6, 6}, {7, 7, 7, 6, 6, 6}, {7, 7, 7, 6, 6, 5},
            {7, 7, 7, 6, 6, 5}, {7, 6, 6, 5, 5, 4}, {7, 6, 6, 5, 5, 4}, {7, 6, 5, 4, 4, 3}, {7, 6, 5, 4, 4, 3}, {7, 6, 5, 4, 3, 2}};
        for (int i = 0; i < mutters.length; i++) {
            int[] left = mutteredAt(mutters[i], 6);
            for (int t = 0; t < 6; t++) {
                CHECK.due("mutter " + mutters[i] + ", left behind " + t, left[t], want[i][t]);
            }
        }
    }

    private static void mutterLeavesOne() {
        ThirdInLine x = Check.told("man a 9 0 90 30 0 0 0;man b 9 1 90 30 0 0 3;well 0 1;mutter 99;");
        x.go(3);
        CHECK.due("one stays", x.look(0, 6), 1);
        x.go(1);
        CHECK.due("of two the last one is out", x.look(1, 6), 3);
        CHECK.due("the first stays", x.look(0, 6), 1);
        CHECK.due("he waited till then", x.look(1, 7), 0);
        x.go(5);
        CHECK.due("till then, and no longer", x.look(1, 7), 0);
        ThirdInLine y = Check.told("man a 9 0 90 1 0 0 0;man b 9 1 90 30 0 0 0;mutter 99;");
        y.go(1);
        CHECK.due("a was served ahead of it: b is alone", y.look(1, 6), 1);
        ThirdInLine z = Check.told("man a 9 0 90 30 0 0 0;man b 9 1 90 30 0 0 0;man c 9 2 1 30 0 0 0;mutter 99;");
        z.go(1);
        CHECK.due("c was out ahead of it, so b is the last", z.count(3), 1);
    }

    private static void mutterNever() {
        int[] left = mutteredAt(0, 40);
        CHECK.due("never", left[39], 8);
        ThirdInLine x = new ThirdInLine();
        Check.text(x, "mutter 99;");
        CHECK.due("without men", x.go(120), 120);
    }

    /** Each number by whole arithmetic of any size; the numbers are seen by who is muttered out. */
    private static void numbersByBits() {
        BigInteger bits = BigInteger.ONE.shiftLeft(31);
        for (int seed : new int[] {0, 1, 2, 65535, 65536, 99998, 99999}) {
            ThirdInLine x = Check.told("man a 9 0 90 30 0 0 0;man b 9 1 90 30 0 0 0;man c 9 2 90 30 0 0 0;man d 9 3 90 30 0 0 0;man e 9 4 90 30 0 0 0;"
                + "man f 9 5 90 30 0 0 0;man g 9 6 90 30 0 0 0;man h 9 7 90 30 0 0 0;well 0 1;law wear 0;mutter 8;seed " + seed + ";");
            BigInteger number = BigInteger.valueOf(seed);
            int left = 8;
            for (int t = 0; t < 120; t++) {
                number = number.multiply(BigInteger.valueOf(1103515245)).add(BigInteger.valueOf(12345)).mod(bits);
                if (number.intValueExact() / 65536 % 100 < 8 && left > 1) {
                    left--;
                }
                x.go(1);
                CHECK.due("seed " + seed + " behind " + t, x.count(3), left);
            }
        }
    }

    /** What is told of a number is that by 65536: of each seed the first one is met from both sides. */
    private static void numbersAreTold() {
        for (int seed = 0; seed < 400; seed++) {
            long number = (seed * 250L * 1103515245L + 12345L) % (1L << 31);
            int told = (int) (number >> 16) % 100;
            for (int mutter = Math.max(1, told); mutter <= Math.min(99, told + 1); mutter++) {
                ThirdInLine x = Check.told("man a 9 0 90 30 0 0 0;man b 9 1 90 30 0 0 0;mutter " + mutter + ";seed " + seed * 250 + ";");
                x.go(1);
                CHECK.due("seed " + seed * 250 + " tells " + told + ", mutter " + mutter, x.count(3), told < mutter ? 1 : 2);
            }
        }
    }

    private static void gone(String how, ThirdInLine x, int man, int state) {
        CHECK.due(how + ": so", x.look(man, 6), state);
        CHECK.due(how + ": no place", x.look(man, 5), -1);
        CHECK.due(how + ": doesn't kneel", x.look(man, 8), 0);
        CHECK.due(how + ": didn't cough", x.look(man, 9), 0);
        CHECK.due(how + ": no coughs", x.count(14), 0);
    }

    /** Who is OUT or SERVED has no PLACE, doesn't kneel, didn't cough, however he left. */
    private static void whoLeftHasNothing() {
        ThirdInLine served = Check.told("man a 9 0 90 4 0 0 0;man b 9 1 90 30 0 0 0;");
        served.go(1);
        served.kneel(0, 20);
        served.cough(0);
        served.go(1);
        gone("served", served, 0, 2);
        ThirdInLine stepped = standing(2, "");
        stepped.kneel(1, 20);
        stepped.cough(1);
        stepped.out(1);
        gone("stepped out", stepped, 1, 3);
        ThirdInLine coughed = standing(2, "");
        coughed.kneel(0, 20);
        coughed.cough(0);
        coughed.cough(1);
        coughed.go(1);
        gone("coughed out", coughed, 0, 3);
        ThirdInLine worn = Check.told("man a 9 0 90 2 0 0 0;man b 9 1 1 30 0 0 0;man c 9 2 90 30 0 0 0;law need 9;");
        worn.go(1);
        worn.swap(1, 2, 0);
        worn.kneel(1, 20);
        worn.cough(1);
        worn.go(1);
        gone("worn out", worn, 1, 3);
        ThirdInLine muttered = Check.told("man a 9 0 90 30 0 0 1;man b 9 1 90 30 0 0 1;mutter 1;law need 9;");
        muttered.join(0);
        muttered.join(1);
        muttered.kneel(1, 20);
        muttered.cough(1);
        muttered.go(1);
        gone("muttered out", muttered, 1, 3);
    }

    private static void value(String e, long want) {
        ThirdInLine x = Check.told("man a 9 1 90 30 7 0 0;well 0 1;law levy " + e + ";law wear " + (e.length() < 30 ? e : "1") + ";");
        x.join(0);
        CHECK.due(e, x.law(0, 0), want);
    }

    private static void valuesAtTheEdges() {
        String most = "(9999+1)*(9999+1)*(9999+1)";
        long error = Long.MIN_VALUE;
        value(most, 1000000000000L);
        value("0-" + most, -1000000000000L);
        value(most + "+0", 1000000000000L);
        value(most + "+1", error);
        value("1+" + most, error);
        value("0-" + most + "-1", error);
        value("0-1-" + most, error);
        value(most + "-(0-1)", error);
        value("(" + most + "+1)*0", error);
        value("0*(" + most + "+1)", error);
        value("(" + most + ")*1", 1000000000000L);
        value("(" + most + ")*2", error);
        value("2*(" + most + ")", error);
        value("(" + most + ")*(0-1)", -1000000000000L);
        value("(" + most + ")*(0-2)", error);
        value("(0-" + most + ")*2", error);
        value("(0-" + most + ")*(0-2)", error);
        value("(" + most + ")/1", 1000000000000L);
        value("(" + most + ")<(" + most + ")", 0);
        value("(" + most + "+1)>0", error);
        value("not(" + most + "+1)", error);
        value("9999*9999", 99980001);
        value("9999", 9999);
        value("0", 0);
        value("0-0", 0);
    }

    /** Products that would be 0 in 64 bits. */
    private static void productsBeyondALong() {
        String[] ones = {"4096*4096*4096", "4096*4096*256", "8192*8192*8192", "4096*4096*4096*8", "4096*4096*2"};
        String[] others = {"4096*4096*16", "4096*4096*256", "8192*4096", "4096*4096*2", "8192*8192*8192"};
        int[] bits = {36, 32, 39, 39, 25};
        for (int i = 0; i < ones.length; i++) {
            value(ones[i], 1L << bits[i]);
            value(others[i], 1L << 64 - bits[i]);
            value("(" + ones[i] + ")*(" + others[i] + ")", Long.MIN_VALUE);
            value("(0-" + ones[i] + ")*(" + others[i] + ")", Long.MIN_VALUE);
            value("(" + ones[i] + ")*(0-" + others[i] + ")", Long.MIN_VALUE);
            value("(0-" + ones[i] + ")*(0-" + others[i] + ")", Long.MIN_VALUE);
        }
    }

    private static void divisionIsCut() {
        value("7/2", 3);
        value("(0-7)/2", -3);
        value("7/(0-2)", -3);
        value("(0-7)/(0-2)", 3);
        value("1/2", 0);
        value("(0-1)/2", 0);
        value("0/1", 0);
        value("0/(0-1)", 0);
        value("1/1", 1);
        value("0/0", Long.MIN_VALUE);
        value("1/0", Long.MIN_VALUE);
        value("1/(1-1)", Long.MIN_VALUE);
        value("(0-1)/0", Long.MIN_VALUE);
    }

    private static void bothSidesAreWorkedOut() {
        value("1 or 1/0", Long.MIN_VALUE);
        value("1/0 or 1", Long.MIN_VALUE);
        value("0 and 1/0", Long.MIN_VALUE);
        value("1/0 and 0", Long.MIN_VALUE);
        value("not(1/0)", Long.MIN_VALUE);
        value("7 and 8", 1);
        value("7 or 0", 1);
        value("(0-7) and (0-8)", 1);
        value("0 or (0-1)", 1);
        value("not(0-1)", 0);
        value("not 2", 0);
        value("not 0", 1);
        value("not not 2", 1);
    }

    private static void namesOfNeed() {
        ThirdInLine x = standing(8, "law need age*1000+place*100+far*10+wait;");
        CHECK.due("of the first of eight", x.law(2, 7), 9000 + 800 + 1);
        x.swap(0, 7, 0);
        CHECK.due("of the first of now", x.law(2, 0), 9000 + 800 + 70 + 1);
        for (int man = 1; man < 8; man++) {
            x.out(man);
        }
        CHECK.due("of one alone", x.law(2, 0), 9000 + 100 + 1);
    }

    private static void waitFromJoiningOn() {
        ThirdInLine x = Check.told("man a 9 0 90 30 9 0 5;well 0 1;law levy wait;");
        x.go(3);
        x.join(0);
        CHECK.due("just joined", x.law(0, 0), 0);
        x.go(1);
        CHECK.due("a minute", x.law(0, 0), 1);
        x.go(116);
        CHECK.due("to the end", x.law(0, 0), 117);
        CHECK.due("to the end", x.look(0, 7), 117);
    }
}
