import java.util.NoSuchElementException;

/** Promises 6 to 18: what is so now, how minutes go by, what men do, who held what. */
public final class QueueTest {
    private static final Check CHECK = new Check();

    public static void main(String[] args) {
        look();
        standsAndHolder();
        lawNames();
        lawValues();
        goEdges();
        joining();
        coughs();
        coughsByLaw();
        water();
        levies();
        patience();
        kneelingWears();
        leaving();
        muttering();
        join();
        out();
        swap();
        kneel();
        cough();
        move();
        fullQueue();
        wasAndRuled();
        CHECK.end("QueueTest");
    }

    private static void places(String what, ThirdInLine x, int... men) {
        for (int place = 0; place < 8; place++) {
            CHECK.due(what + ", stands " + place, x.stands(place), place < men.length ? men[place] : -2);
        }
        CHECK.due(what + ", how many", x.count(3), men.length);
    }

    private static int thrown(ThirdInLine x, int man, int what) {
        try {
            x.look(man, what);
            return 0;
        } catch (IndexOutOfBoundsException e) {
            return 1;
        } catch (NoSuchElementException e) {
            return 2;
        }
    }

    private static void looks(String when, ThirdInLine x, int man, int... want) {
        for (int what = 0; what < want.length; what++) {
            CHECK.due(when + ", look " + man + " " + what, x.look(man, what), want[what]);
        }
    }

    private static void look() {
        ThirdInLine x = Check.told("man a 30 1 20 4 5 3 0;man b 40 2 10 30 6 4 0;man c 50 3 9 9 7 2 2;guard b a;");
        looks("at first", x, 0, 30, 1, 20, 0, 5, -1, 0, 0, 0, 0, -1);
        looks("at first", x, 1, 40, 2, 10, 0, 6, -1, 0, 0, 0, 0, 0);
        CHECK.due("no man 3", thrown(x, 3, 0), 1);
        CHECK.due("no man -1", thrown(x, -1, 0), 1);
        CHECK.due("no man at all", thrown(new ThirdInLine(), 0, 0), 1);
        CHECK.due("no man, no what", thrown(x, 3, 11), 1);
        CHECK.due("no what 11", thrown(x, 2, 11), 2);
        CHECK.due("no what -1", thrown(x, 0, -1), 2);
        CHECK.due("no least what", thrown(x, 0, Integer.MIN_VALUE), 2);
        CHECK.due("what 10 is there", thrown(x, 0, 10), 0);
        x.go(1);
        looks("behind 0", x, 0, 30, 1, 20, 2, 5, 0, 1, 1, 0, 0, -1);
        looks("behind 0", x, 1, 40, 2, 9, 0, 6, 1, 1, 1, 0, 0, 0);
        looks("behind 0", x, 2, 50, 3, 9, 0, 7, -1, 0, 0, 0, 0, -1);
        x.cough(1);
        x.kneel(1, 3);
        looks("coughed, kneels", x, 1, 40, 2, 9, 0, 6, 1, 1, 1, 3, 1, 0);
        x.go(1);
        looks("behind 1", x, 0, 30, 1, 20, 4, 5, -1, 2, 1, 0, 0, -1);
        looks("behind 1", x, 1, 40, 2, 9, 0, 6, 0, 1, 2, 2, 0, 0);
        x.go(1);
        looks("behind 2, the first kneels", x, 1, 40, 2, 9, 2, 6, 0, 1, 3, 1, 0, 0);
        looks("behind 2", x, 2, 50, 3, 8, 0, 7, 1, 1, 1, 0, 0, -1);
        x.kneel(2, 9);
        x.cough(2);
        x.out(2);
        looks("out", x, 2, 50, 3, 8, 0, 7, -1, 3, 1, 0, 0, -1);
        x.go(5);
        looks("out since", x, 2, 50, 3, 8, 0, 7, -1, 3, 1, 0, 0, -1);
        looks("served since", x, 0, 30, 1, 20, 4, 5, -1, 2, 1, 0, 0, -1);
    }

    private static void standsAndHolder() {
        ThirdInLine x = Check.told("man a 9 1 50 30 0 0 0;man b 9 0 50 30 0 0 0;man c 9 2 50 30 0 0 0;power crown 1;power judge 7;power tax 0;");
        places("nobody", x);
        CHECK.due("holder of none", x.holder(0), -2);
        x.go(1);
        places("three", x, 1, 0, 2);
        CHECK.due("crown", x.holder(0), 0);
        CHECK.due("judge", x.holder(1), -2);
        CHECK.due("tax", x.holder(2), 1);
        CHECK.due("holder -1", x.holder(-1), -1);
        CHECK.due("holder 3", x.holder(3), -1);
        CHECK.due("stands -1", x.stands(-1), -1);
        CHECK.due("stands 8", x.stands(8), -1);
    }

    private static void lawNames() {
        ThirdInLine x = Check.told("man a 30 1 90 20 7 3 0;man b 40 2 90 30 8 4 1;man c 50 3 90 30 9 2 40;levies 30;"
            + "law levy age*1000+far*100+bucket;law wear coin*100+place*10+wait;law need age*1000+place*100+wait*10+coin;");
        long none = Long.MIN_VALUE;
        CHECK.due("need of nobody", x.law(2, 0), none);
        x.go(1);
        CHECK.due("wear of a, worn less by 9 at most", x.law(1, 0), 701);
        x.go(1);
        CHECK.due("levy of a", x.law(0, 0), 30120);
        CHECK.due("levy of b", x.law(0, 1), 40230);
        CHECK.due("wear of a", x.law(1, 0), 702);
        CHECK.due("wear of b", x.law(1, 1), 811);
        CHECK.due("need", x.law(2, 0), 30227);
        CHECK.due("need doesn't look at him", x.law(2, -5), 30227);
        CHECK.due("levy of c", x.law(0, 2), none);
        CHECK.due("levy of none", x.law(0, 3), none);
        CHECK.due("wear of none", x.law(1, -1), none);
        CHECK.due("no law 3", x.law(3, 0), none);
        CHECK.due("no law -1", x.law(-1, 0), none);
        x.swap(0, 1, 5);
        CHECK.due("need of b", x.law(2, 0), 40200 + 10 + 13);
        CHECK.due("wear of a at place 1", x.law(1, 0), 212);
        x.out(0);
        CHECK.due("levy of who is out", x.law(0, 0), none);
        ThirdInLine y = Check.told("man a 30 1 90 20 7 3 0;");
        y.go(1);
        for (int what = 0; what < 3; what++) {
            CHECK.due("law untold " + what, y.law(what, 0), none);
        }
    }

    private static void value(String e, long want) {
        ThirdInLine x = Check.told("man a 5 6 50 30 9 3 0;law levy " + e + ";");
        x.go(1);
        CHECK.due(e, x.law(0, 0), want);
    }

    private static void lawValues() {
        long none = Long.MIN_VALUE;
        String million = "(9999+1)*(99+1)";
        String billions = "(9999+1)*(9999+1)*(9999+1)";
        String[] texts = {"0", "9999", "age", "far", "bucket", "coin", "place", "wait", "1-2-3", "8/4/2", "2+3*4", "(2+3)*4", "2*3-4*5", "7/2",
            "(0-7)/2", "7/(0-2)", "(0-7)/(0-2)", "1<2", "2<2", "2<=2", "3<=2", "2=2", "2=3", "2<>2", "2<>3", "3<>2", "2>=2", "1>=2", "2>2", "3>2",
            "not 0", "not 7", "not not 7", "not(0-1)", "2 and 3", "2 and 0", "0 and 2", "0 or 0", "0 or 5", "5 or 0", "1 or 1 and 0",
            "0 and 0 or 1", "not 1 or 1", "not(1 or 1)", "not 0 and 0", "not 1<2", "not 5=0", "1+1<3", "(1<2)=1",
            "1<2 and 2<1 or 3", "10-2*3=4 and 7", "0-5", "age-far", "1>0-1"};
        long[] values = {0, 9999, 5, 6, 30, 9, 0, 1, -4, 1, 14, 20, -14, 3, -3, -3, 3, 1, 0, 1, 0, 1, 0, 0, 1, 1, 1, 0, 0, 1, 1, 0, 1, 0, 1, 0, 0, 0, 1,
            1, 1, 1, 1, 0, 0, 0, 1, 1, 1, 1, 1, -5, -1, 1};
        CHECK.due("as many values as texts", values.length, texts.length);
        for (int i = 0; i < Math.min(texts.length, values.length); i++) {
            value(texts[i], values[i]);
        }
        value("1/0", none);
        value("1/(age-5)", none);
        value("1 or 1/0", none);
        value("0 and 1/0", none);
        value("0*(1/0)", none);
        value("not(1/place)", none);
        value(million, 1000000);
        value(billions, 1000000000000L);
        value(billions + "+1", none);
        value(billions + "+1-1", none);
        value("0-" + billions, -1000000000000L);
        value("0-" + billions + "-1", none);
        value("(0-" + billions + ")*1", -1000000000000L);
        value("(0-" + billions + ")*(0-1)", 1000000000000L);
        value("(0-" + billions + ")*2", none);
        value("(" + billions + ")*0", 0);
        value("0*(" + billions + ")", 0);
        value("(" + billions + ")*(" + billions + ")", none);
        value("(" + billions + ")*(" + billions + ")*(" + billions + ")", none);
        value("(" + billions + ")/(0-1)", -1000000000000L);
        value("(" + million + ")*(" + million + ")", 1000000000000L);
        value("(" + million + "+1)*(" + million + ")", none);
        value("(0-" + million + "-1)*(" + million + ")", none);
        value("9999*9999*9999", 999700029999L);
        // these would be 0 in 64 bits
        value("(256*256*256*256)*(256*256*256*256)", none);
        value("(256*256*256*256)*(0-256*256*256*256)", none);
        value("(0-256*256*256*256)*(256*256*256*256)", none);
        value("(0-256*256*256*256)*(0-256*256*256*256)", none);
    }

    private static void goEdges() {
        ThirdInLine x = new ThirdInLine();
        CHECK.due("go 0", x.go(0), 0);
        CHECK.due("go -1", x.go(-1), -1);
        CHECK.due("go 121", x.go(121), -1);
        CHECK.due("go least", x.go(Integer.MIN_VALUE), -1);
        CHECK.due("go greatest", x.go(Integer.MAX_VALUE), -1);
        CHECK.due("none went by", x.count(2), 0);
        CHECK.due("go 1", x.go(1), 1);
        CHECK.due("behind 120", x.go(120), -1);
        CHECK.due("go 119", x.go(119), 120);
        CHECK.due("go 0 at the end", x.go(0), 120);
        CHECK.due("go 1 at the end", x.go(1), -1);
    }

    private static void joining() {
        ThirdInLine x = Check.told("man a 10 5 90 30 0 0 1;man b 20 5 90 30 0 0 1;man c 20 5 90 30 0 0 1;man d 99 9 90 30 0 0 1;"
            + "man e 1 0 90 30 0 0 1;man f 99 0 90 30 0 0 2;man g 50 9 90 30 0 0 0;man h 50 9 90 30 0 0 59;well 9 1;");
        x.go(1);
        places("at 0", x, 6);
        x.go(1);
        places("by far, age, number", x, 6, 4, 1, 2, 0, 3);
        x.go(1);
        places("last", x, 6, 4, 1, 2, 0, 3, 5);
        x.go(56);
        places("till 58", x, 6, 4, 1, 2, 0, 3, 5);
        x.go(1);
        places("all eight", x, 6, 4, 1, 2, 0, 3, 5, 7);
        CHECK.due("at 59", x.look(7, 7), 1);
    }

    /** Five men who stand for long; who coughs is told by numbers. */
    private static void coughing(String more, boolean thrown, int... men) {
        ThirdInLine x = Check.told("man a 9 0 90 30 4 0 0;man b 9 1 90 30 4 0 0;man c 9 2 90 30 4 0 0;man d 9 3 90 30 4 0 0;"
            + "man e 9 4 90 30 4 0 0;well 99 1;" + more);
        x.go(1);
        for (int man : men) {
            CHECK.due("coughs " + man, x.cough(man), true);
        }
        x.go(1);
        CHECK.due("first is out with " + more + " by " + java.util.Arrays.toString(men), x.look(0, 6), thrown ? 3 : 1);
        CHECK.due("coughs are over", x.count(14), 0);
        CHECK.due("the next one gets water", x.look(1, 3), thrown ? 1 : 0);
        CHECK.due("the first waited", x.look(0, 7), thrown ? 1 : 2);
        x.go(1);
        CHECK.due("only once", x.count(5), thrown ? 1 : 0);
    }

    private static void coughs() {
        coughing("", false);
        coughing("", false, 1, 2);
        coughing("", true, 1, 2, 3);
        coughing("", true, 3, 2, 1, 0, 4);
        coughing("", false, 0, 1, 2);
        coughing("", false, 1, 2, 4);
        coughing("ear 4;", true, 1, 2, 4);
        coughing("ear 1;law need 1;", true, 1);
        coughing("ear 1;law need 1;", false, 2);
        coughing("guard b a;", false, 1, 2, 3);
        coughing("guard c a;", true, 1, 2, 3);
        coughing("guard b c;", true, 1, 2, 3);
        coughing("guard a b;", true, 1, 2, 3);
    }

    private static void coughsByLaw() {
        coughing("law need 0-5;", true, 3);
        coughing("law need 0;", false);
        coughing("law need 2;", false, 3);
        coughing("law need 2;", true, 1, 3);
        coughing("law need 50;ear 7;", false, 1, 2, 3, 4);
        coughing("law need 4;ear 7;", true, 1, 2, 3, 4);
        coughing("law need 1/0;", false, 1, 2);
        coughing("law need 1/0;", true, 1, 2, 3);
        coughing("law need place-3;", true, 1, 2);
        coughing("law need place-3;", false, 1);
        coughing("law need wait+1;", true, 1, 2);
        coughing("law need wait+1;", false, 1);
        coughing("law need coin-1;", true, 1, 2, 3);
        coughing("law need age+far-7;", false, 1);
        coughing("law need bucket/10;", false, 1, 2);
        coughing("law need far+1;", true, 1);
        coughing("law need age-far-7;", false, 1);
    }

    private static void water() {
        ThirdInLine x = Check.told("man a 9 0 90 5 0 0 0;man b 9 1 90 30 0 0 0;well 11 3;");
        x.go(1);
        CHECK.due("rate", x.look(0, 3), 3);
        CHECK.due("water left", x.count(6), 8);
        x.go(1);
        CHECK.due("what the bucket holds", x.look(0, 3), 5);
        CHECK.due("water left", x.count(6), 6);
        CHECK.due("served", x.look(0, 6), 2);
        CHECK.due("the next gets none yet", x.look(1, 3), 0);
        x.go(1);
        CHECK.due("the next", x.look(1, 3), 3);
        x.go(3);
        CHECK.due("no more than there is", x.look(1, 3), 6);
        CHECK.due("none left", x.count(6), 0);
        CHECK.due("not served", x.look(1, 6), 1);
        ThirdInLine y = Check.told("man a 9 0 90 5 0 0 0;well 4 3;");
        y.go(2);
        CHECK.due("the last of it", y.look(0, 3), 4);
        ThirdInLine z = Check.told("man a 9 0 90 5 0 0 0;well 4 9;");
        z.go(2);
        CHECK.due("at once", z.look(0, 3), 4);
    }

    private static void taxed(String more, int a, int b, int c) {
        ThirdInLine x = Check.told("man a 9 1 90 30 5 0 0;man b 8 2 90 30 9 0 0;man c 7 3 90 30 99 0 0;well 9 1;" + more);
        x.go(1);
        CHECK.due(more + " leaves a", x.look(0, 4), a);
        CHECK.due(more + " leaves b", x.look(1, 4), b);
        CHECK.due(more + " leaves c", x.look(2, 4), c);
        CHECK.due(more + " all coin", x.count(7), 113);
    }

    private static void levies() {
        taxed("", 4, 8, 101);
        ThirdInLine ten = Check.told("man a 9 1 90 30 50 0 0;man b 8 2 90 30 50 0 0;well 9 1;power tax 0;");
        ten.go(10);
        CHECK.due("levied at 0", ten.look(1, 4), 49);
        ten.go(1);
        CHECK.due("and every ten minutes", ten.look(1, 4), 48);
        taxed("power tax 0;", 7, 8, 98);
        taxed("power tax 3;", 5, 9, 99);
        taxed("law levy 7;", 0, 2, 111);
        taxed("power tax 1;law levy 100;", 0, 113, 0);
        taxed("power tax 0;law levy 98;", 112, 0, 1);
        taxed("law levy 0-3;", 5, 9, 99);
        taxed("law levy 0;", 5, 9, 99);
        taxed("law levy 1/0;", 4, 8, 101);
        taxed("law levy 2/place;", 4, 7, 102);
        taxed("law levy coin/2+wait;", 3, 5, 105);
        taxed("law levy age-5;", 1, 6, 106);
        taxed("law levy far*2;power tax 1;", 3, 17, 93);
        ThirdInLine x = Check.told("man a 9 1 90 30 50 0 0;man b 8 2 90 30 50 0 0;well 9 1;levies 3;power tax 1;law levy 2+wait;");
        int[] want = {48, 48, 48, 43, 43, 43, 35};
        for (int i = 0; i < want.length; i++) {
            x.go(1);
            CHECK.due("levied by minutes " + i, x.look(0, 4), want[i]);
        }
        CHECK.due("who takes", x.look(1, 4), 65);
    }

    private static void worn(String more, int first, int second, int third) {
        ThirdInLine x = Check.told("man a 9 1 90 30 5 0 0;man b 8 2 90 30 9 0 0;man c 7 3 90 30 99 0 0;well 9 1;power tax 7;" + more);
        x.go(1);
        CHECK.due(more + " wears the first", x.look(0, 2), first);
        CHECK.due(more + " wears the second", x.look(1, 2), second);
        CHECK.due(more + " wears the third", x.look(2, 2), third);
    }

    private static void patience() {
        worn("", 90, 89, 89);
        worn("law wear 3;", 90, 87, 87);
        worn("law wear 10;", 90, 81, 81);
        worn("law wear 0-1;", 90, 90, 90);
        worn("law wear 0;", 90, 90, 90);
        worn("law wear 1/0;", 90, 89, 89);
        worn("law wear 4*place;", 90, 86, 82);
        worn("law wear coin;", 90, 81, 81);
        worn("law wear age-6;", 90, 88, 89);
        worn("law wear wait+1;", 90, 89, 89);
        ThirdInLine x = Check.told("man a 9 1 90 30 5 0 0;man b 8 2 90 30 9 0 0;well 9 1;power tax 0;levies 1;law levy 4;law wear coin;");
        x.go(1);
        CHECK.due("coin as now, behind the tax", x.look(1, 2), 85);
        x.go(1);
        CHECK.due("coin as now", x.look(1, 2), 84);
    }

    private static void kneelingWears() {
        ThirdInLine x = Check.told("man a 9 1 90 30 5 0 0;man b 8 2 90 30 9 0 0;man c 8 3 90 30 9 0 0;well 9 1;");
        x.go(1);
        x.kneel(0, 2);
        x.kneel(1, 2);
        x.go(1);
        CHECK.due("who kneels isn't worn", x.look(1, 2), 89);
        CHECK.due("who doesn't is", x.look(2, 2), 88);
        CHECK.due("kneels still", x.look(1, 8), 1);
        CHECK.due("the first kneels still", x.look(0, 8), 1);
        x.go(1);
        CHECK.due("for two", x.look(1, 2), 89);
        CHECK.due("no more", x.look(1, 8), 0);
        CHECK.due("the first no more", x.look(0, 8), 0);
        x.go(1);
        CHECK.due("worn again", x.look(1, 2), 88);
    }

    private static void leaving() {
        ThirdInLine x = Check.told("man a 9 0 9 2 5 0 0;man b 9 1 1 4 9 0 0;man c 9 2 1 30 9 0 0;man d 9 3 2 30 9 0 0;man e 9 4 1 30 9 0 0;");
        x.go(1);
        places("served, then impatient ones out, but not the first of now", x, 1, 3);
        CHECK.due("a is served", x.look(0, 6), 2);
        CHECK.due("a has it all", x.look(0, 3), 2);
        CHECK.due("b's patience", x.look(1, 2), 0);
        CHECK.due("c is out", x.look(2, 6), 3);
        CHECK.due("e is out", x.look(4, 6), 3);
        CHECK.due("served", x.count(4), 1);
        CHECK.due("out", x.count(5), 2);
        CHECK.due("c at once", x.look(2, 7), 0);
        x.kneel(1, 9);
        x.swap(3, 1, 0);
        x.go(1);
        places("no longer first: out, also if he kneels", x, 3);
        CHECK.due("b is out", x.look(1, 6), 3);
        CHECK.due("b kneels no more", x.look(1, 8), 0);
        CHECK.due("d's patience", x.look(3, 2), 1);
    }

    private static ThirdInLine mutterers(String more) {
        return Check.told("man a 9 0 90 30 0 0 0;man b 9 1 90 30 0 0 0;man c 9 2 90 30 0 0 0;man d 9 3 90 30 0 0 0;well 9 1;" + more);
    }

    /** From seed 0 on the numbers modulo 100 are 0 68 88 17 98 27; from 1 on 38 58 13 15 51 27. */
    private static void muttering() {
        ThirdInLine x = mutterers("mutter 1;");
        x.go(1);
        places("0 is below 1", x, 0, 1, 2);
        x.go(1);
        places("68 isn't", x, 0, 1, 2);
        x = mutterers("mutter 77;seed 0;");
        x.go(2);
        places("0 and 68 are below 77", x, 0, 1);
        x.go(1);
        places("88 isn't", x, 0, 1);
        x.go(1);
        places("17 is", x, 0);
        x.go(4);
        places("not the only one", x, 0);
        x = mutterers("mutter 15;seed 1;");
        int[] left = {4, 4, 3, 3, 3, 3};
        for (int i = 0; i < left.length; i++) {
            x.go(1);
            CHECK.due("mutter 15 behind " + i, x.count(3), left[i]);
        }
        x = Check.told("man a 9 0 90 30 0 0 2;man b 9 1 90 30 0 0 2;mutter 77;");
        x.go(3);
        places("a number each minute, also without men", x, 0, 1);
        x.go(1);
        places("the fourth number", x, 0);
        x = mutterers("mutter 99;seed 99999;");
        x.go(3);
        places("a greater seed", x, 0);
        x = mutterers("seed 5;");
        x.go(9);
        CHECK.due("no muttering", x.count(3), 4);
    }

    private static void join() {
        ThirdInLine x = Check.told("man a 9 0 90 30 0 0 0;man b 9 1 90 30 0 0 5;man c 9 2 90 30 0 0 1;");
        CHECK.due("into an empty queue", x.join(1), 0);
        CHECK.due("again", x.join(1), -1);
        CHECK.due("no man 3", x.join(3), -1);
        CHECK.due("no man -1", x.join(-1), -1);
        x.go(1);
        places("ahead of who comes", x, 1, 0);
        CHECK.due("joined at 0", x.look(1, 7), 1);
        CHECK.due("behind them", x.join(2), 2);
        CHECK.due("just now", x.look(2, 7), 0);
        x.go(6);
        places("comes but once", x, 1, 0, 2);
        x.out(0);
        CHECK.due("who is out can't", x.join(0), -1);
    }

    private static void out() {
        ThirdInLine x = Check.told("man a 9 0 90 30 0 0 0;man b 9 1 90 30 0 0 0;man c 9 2 90 30 0 0 0;man d 9 2 90 30 0 0 9;");
        CHECK.due("to come", x.out(0), false);
        x.go(1);
        CHECK.due("no man 4", x.out(4), false);
        CHECK.due("no man -1", x.out(-1), false);
        CHECK.due("to come", x.out(3), false);
        CHECK.due("steps out", x.out(1), true);
        places("who stands behind moves up", x, 0, 2);
        CHECK.due("once", x.out(1), false);
        CHECK.due("count", x.count(5), 1);
        CHECK.due("the first", x.out(0), true);
        CHECK.due("the last", x.out(2), true);
        places("nobody", x);
    }

    private static void swap() {
        ThirdInLine x = Check.told("man a 9 0 90 30 99 0 0;man b 9 1 90 30 99 0 0;man c 9 2 90 30 3 0 0;man d 9 2 90 30 9 0 9;power tax 7;");
        CHECK.due("to come", x.swap(0, 1, 0), false);
        x.go(1);
        CHECK.due("alike", x.swap(1, 1, 0), false);
        CHECK.due("one to come", x.swap(0, 3, 0), false);
        CHECK.due("one to come", x.swap(3, 0, 0), false);
        CHECK.due("no man", x.swap(0, 4, 0), false);
        CHECK.due("no man", x.swap(-1, 0, 0), false);
        CHECK.due("coin -1", x.swap(0, 1, -1), false);
        CHECK.due("hasn't so much", x.swap(2, 1, 4), false);
        CHECK.due("all he has", x.swap(2, 0, 3), true);
        places("swapped", x, 2, 1, 0);
        CHECK.due("payer", x.look(2, 4), 0);
        CHECK.due("paid", x.look(0, 4), 102);
        CHECK.due("coin 100", x.swap(0, 1, 100), false);
        CHECK.due("coin 99", x.swap(0, 1, 99), true);
        places("swapped", x, 2, 0, 1);
        CHECK.due("payer", x.look(0, 4), 3);
        CHECK.due("paid", x.look(1, 4), 198);
        CHECK.due("for nothing", x.swap(1, 0, 0), true);
        places("swapped", x, 2, 1, 0);
    }

    private static void kneel() {
        ThirdInLine x = Check.told("man a 9 0 90 30 99 0 0;man b 9 1 90 30 99 0 9;");
        CHECK.due("to come", x.kneel(0, 1), false);
        x.go(1);
        CHECK.due("to come", x.kneel(1, 1), false);
        CHECK.due("no man", x.kneel(2, 1), false);
        CHECK.due("no man", x.kneel(-1, 1), false);
        CHECK.due("0", x.kneel(0, 0), false);
        CHECK.due("21", x.kneel(0, 21), false);
        CHECK.due("20", x.kneel(0, 20), true);
        CHECK.due("it is so", x.kneel(0, 20), false);
        CHECK.due("in place of those left", x.kneel(0, 1), true);
        CHECK.due("1 left", x.look(0, 8), 1);
        x.kneel(0, 5);
        x.go(2);
        CHECK.due("it is so now", x.kneel(0, 3), false);
        CHECK.due("longer again", x.kneel(0, 5), true);
    }

    private static void cough() {
        ThirdInLine x = Check.told("man a 9 0 90 30 99 0 0;man b 9 1 90 30 99 0 9;");
        CHECK.due("to come", x.cough(0), false);
        x.go(1);
        CHECK.due("to come", x.cough(1), false);
        CHECK.due("no man", x.cough(2), false);
        CHECK.due("no man", x.cough(-1), false);
        CHECK.due("coughs", x.cough(0), true);
        CHECK.due("he did", x.cough(0), false);
        CHECK.due("count", x.count(14), 1);
        x.go(1);
        CHECK.due("again then", x.cough(0), true);
    }

    private static void move() {
        ThirdInLine x = Check.told("man a 9 0 90 30 9 0 0;man b 9 1 90 30 9 0 0;");
        CHECK.due("it is so", x.move(1, 1), false);
        CHECK.due("no place", x.move(1, 8), false);
        CHECK.due("no place", x.move(1, -1), false);
        CHECK.due("no power", x.move(3, 0), false);
        CHECK.due("no power", x.move(-1, 0), false);
        CHECK.due("moved", x.move(1, 7), true);
        CHECK.due("moved", x.move(0, 1), true);
        CHECK.due("moved", x.move(2, 0), true);
        CHECK.due("crown", x.count(11), 1);
        CHECK.due("judge", x.count(12), 7);
        CHECK.due("tax", x.count(13), 0);
        x.go(1);
        CHECK.due("the tax is taken there", x.look(0, 4), 10);
        CHECK.due("crown", x.holder(0), 1);
    }

    private static void fullQueue() {
        StringBuilder men = new StringBuilder();
        for (char c = 'a'; c <= 'h'; c++) {
            men.append("man ").append(c).append(" 9 ").append(c - 'a').append(" 90 30 9 0 0;");
        }
        ThirdInLine x = Check.told(men + "power tax 7;law levy 2;well 99 1;");
        x.go(1);
        places("all", x, 0, 1, 2, 3, 4, 5, 6, 7);
        CHECK.due("the last one takes", x.look(7, 4), 23);
        CHECK.due("stands 7", x.holder(2), 7);
        x.swap(0, 7, 0);
        x.out(3);
        places("seven", x, 7, 1, 2, 4, 5, 6, 0);
        x.out(7);
        x.out(0);
        places("five", x, 1, 2, 4, 5, 6);
    }

    private static void wasAndRuled() {
        ThirdInLine x = Check.told("man a 9 0 90 2 9 0 1;man b 9 1 90 8 9 0 1;man c 9 1 90 8 9 0 2;");
        CHECK.due("none gone by", x.was(0, 0), -1);
        CHECK.due("none gone by", x.ruled(0, 0), 0);
        x.go(3);
        int[] crown = {-2, 1, 1};
        int[] judge = {-2, -2, 2};
        for (int t = 0; t < 3; t++) {
            CHECK.due("crown behind " + t, x.was(0, t), crown[t]);
            CHECK.due("judge behind " + t, x.was(1, t), judge[t]);
            CHECK.due("tax behind " + t, x.was(2, t), -2);
        }
        x.move(0, 1);
        x.go(1);
        CHECK.due("as the power was", x.was(0, 2), 1);
        CHECK.due("as the power is", x.was(0, 3), 2);
        CHECK.due("not gone by", x.was(0, 4), -1);
        CHECK.due("minute -1", x.was(0, -1), -1);
        CHECK.due("power 3", x.was(3, 0), -1);
        CHECK.due("power -1", x.was(-1, 0), -1);
        CHECK.due("b's crown", x.ruled(1, 0), 2);
        CHECK.due("c's crown", x.ruled(2, 0), 1);
        CHECK.due("c's judge", x.ruled(2, 1), 2);
        CHECK.due("a's", x.ruled(0, 0), 0);
        CHECK.due("no man", x.ruled(3, 0), -1);
        CHECK.due("no man", x.ruled(-1, 0), -1);
        CHECK.due("no power", x.ruled(0, 3), -1);
        CHECK.due("no power", x.ruled(0, -1), -1);
        ThirdInLine y = Check.told("man a 9 0 90 30 9 0 0;");
        y.go(2);
        CHECK.due("from minute 0 on", y.ruled(0, 0), 2);
        x.go(116);
        CHECK.due("the last one", x.was(0, 119), -2);
        CHECK.due("none behind", x.was(0, 120), -1);
    }
}
