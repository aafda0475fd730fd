/** Promises 1 to 5: the new object, the tape, texts and their faults, names. */
public final class TextTest {
    private static final Check CHECK = new Check();
    private static final String MAN = "man a 1 0 1 1 0 0 0;";

    public static void main(String[] args) {
        newObject();
        tape();
        textTakesTheTape();
        goodTexts();
        textStartsAnew();
        textsOneByOne();
        tokensThatCantStand();
        tokensThatCantStandInLaws();
        tooMuch();
        tooManyKnots();
        toldAlready();
        menUntold();
        firstAlongTheText();
        faultLeavesAllElse();
        names();
        CHECK.end("TextTest");
    }

    private static void newObject() {
        ThirdInLine x = new ThirdInLine();
        int[] want = {0, 0, 0, 0, 0, 0, 200, 0, 0, 0, 0, 0, 1, 2, 0};
        for (int what = 0; what < want.length; what++) {
            CHECK.due("new count " + what, x.count(what), want[what]);
        }
        CHECK.due("new fault", x.fault(0), 0);
        CHECK.due("new fault's place", x.fault(1), -1);
        CHECK.due("new named", x.named(0), -1);
        CHECK.due("new back", x.back(), -1);
        CHECK.due("new undo", x.undo(), -1);
        CHECK.due("new tape is empty", x.text(1), -2);
        CHECK.due("no lines", x.text(0), 0);
    }

    private static void tape() {
        ThirdInLine x = new ThirdInLine();
        for (int i = 1; i <= 35; i++) {
            CHECK.due("feed " + i, x.feed(0x20202020, 0x20202020, 0x20202020, 0x20202020, 0x20202020), 20 * i);
        }
        CHECK.due("feed beyond 700", x.feed(0, 0, 0, 0, 0), -1);
        CHECK.due("feed beyond 700 again", x.feed(0, 0, 0, 0, 0), -1);
        CHECK.due("text beyond 700", x.text(701), -2);
        CHECK.due("text of 700 blanks", x.text(700), 0);
        CHECK.due("empty then", x.feed('e' << 24 | 'a' << 16 | 'r' << 8 | ' ', '7' << 24 | ';' << 16 | 'w' << 8 | 'e',
            'l' << 24 | 'l' << 16 | ' ' << 8 | '1', '2' << 24 | ' ' << 16 | '3' << 8 | ';', 0xff80007f), 20);
        CHECK.due("highest bytes first", x.text(16), 2);
        CHECK.due("water by bytes", x.count(6), 12);
        x.feed(0xff80007f, 0, 0, 0, 0);
        CHECK.due("bytes of no sign", x.text(1), -1);
        CHECK.due("their place", x.fault(1), 0);
    }

    private static void textTakesTheTape() {
        ThirdInLine x = new ThirdInLine();
        Check.feed(x, Check.bytes("well 7 1;ear 1;"));
        CHECK.due("not so many", x.text(21), -2);
        CHECK.due("below 0", x.text(-1), -2);
        CHECK.due("least int", x.text(Integer.MIN_VALUE), -2);
        CHECK.due("greatest int", x.text(Integer.MAX_VALUE), -2);
        CHECK.due("the first nine", x.text(9), 1);
        CHECK.due("empty then", x.text(1), -2);
        CHECK.due("water", x.count(6), 7);
        Check.feed(x, Check.bytes("well 7 !;"));
        CHECK.due("with a fault", x.text(9), -1);
        CHECK.due("empty with a fault, too", x.feed(0, 0, 0, 0, 0), 20);
        CHECK.due("fault", x.fault(0), 1);
        CHECK.due("its place", x.fault(1), 7);
        CHECK.due("-2 is not looked at", x.text(99), -2);
        CHECK.due("fault still", x.fault(0), 1);
        CHECK.due("its place still", x.fault(1), 7);
        CHECK.due("fault 2", x.fault(2), -1);
        CHECK.due("fault -1", x.fault(-1), -1);
        x.text(0);
        CHECK.due("no fault", x.fault(0), 0);
        CHECK.due("no place", x.fault(1), -1);
    }

    private static void good(String text, int lines) {
        ThirdInLine x = new ThirdInLine();
        CHECK.due("lines of " + text, Check.text(x, text), lines);
        CHECK.due("no fault of " + text, x.fault(0), 0);
        CHECK.due("no place of " + text, x.fault(1), -1);
    }

    private static void goodTexts() {
        good("", 0);
        good(" \n \n", 0);
        good("\nman\na\n99\n9\n99\n30\n99\n99\n59\nyes\n;\n", 1);
        good("man abcdef1 0 1 1 0 0 0yes;", 1);
        good("man a 001 000 00000000000000000000000000000000000000001 1 0 0 0;", 1);
        good("power crown0;power judge7;power tax 7;well 0 1;levies 1;ear 1;mutter 0;seed 0;", 8);
        good("well 999 9;levies 30;ear 7;mutter 99;seed 99999;", 5);
        good("law need 9999;law levy 0;law wear age+far-bucket*coin/place<=wait;", 3);
        good("law levy((((((((1))))))));law wear(1)+(2);", 2);
        good("law levy 1<2 and 2<=3 or 3=3 and 4<>5 or 5>=6 and not 7>8;", 1);
        good("law levy not not(not age<2)and 3;", 1);
        good(MAN + "man b 1 0 1 1 0 0 0;guard a b;guard b a;", 4);
        StringBuilder eight = new StringBuilder();
        for (char c = 'a'; c <= 'h'; c++) {
            eight.append("man ").append(c).append(" 1 0 1 1 0 0 0;");
        }
        good(eight.toString(), 8);
        good("man a 1 0 1 1 0 0 0;" + " ".repeat(680), 1);
    }

    private static void textStartsAnew() {
        ThirdInLine x = Check.told("man a 9 0 9 9 9 9 0;power tax 5;well 50 3;levies 3;ear 5;mutter 9;seed 9;law levy 2+2;");
        x.go(2);
        x.stone(0, 0, 0);
        x.known(0);
        x.keep();
        x.cough(0);
        CHECK.due("text again", Check.text(x, "man b 5 1 6 7 8 9 3;"), 1);
        int[] want = {1, 0, 0, 0, 0, 0, 200, 8, 0, 0, 0, 0, 1, 2, 0};
        for (int what = 0; what < want.length; what++) {
            CHECK.due("count anew " + what, x.count(what), want[what]);
        }
        CHECK.due("no image", x.back(), -1);
        CHECK.due("nothing to undo", x.undo(), -1);
        CHECK.due("all known", x.stone(0, 0, -1), 0);
        CHECK.due("all known", x.count(9), 1);
        CHECK.due("his place", x.look(0, 5), -1);
        CHECK.due("to come", x.look(0, 6), 0);
        CHECK.due("bucket", x.look(0, 3), 0);
        CHECK.due("patience", x.look(0, 2), 6);
    }

    /** A text with all of it, then one with nothing, then all of it again, with faults between. */
    private static void textsOneByOne() {
        String all = "man a 9 0 9 9 9 9 0;man b 9 1 9 9 5 9 0;guard a b;power crown 4;power judge 5;power tax 0;well 50 3;levies 3;ear 5;"
            + "mutter 99;seed 9;law levy 2+2;law wear 3;law need 5;";
        ThirdInLine x = Check.told(all);
        for (int i = 0; i < 4; i++) {
            x.go(1);
            x.join(1);
            x.kneel(0, 9);
            x.cough(0);
            CHECK.due("nothing is told", x.text(0), 0);
            int[] want = {0, 0, 0, 0, 0, 0, 200, 0, 0, 0, 0, 0, 1, 2, 0};
            for (int what = 0; what < want.length; what++) {
                CHECK.due("count of nothing " + what, x.count(what), want[what]);
            }
            if (i % 2 == 0) {
                CHECK.due("a fault between", Check.text(x, all + "!"), -1);
            }
            String men = "man a 9 0 9 9 9 9 0;man c 9 1 9 9 5 9 0;man d 9 1 9 9 5 9 0;";
            CHECK.due("three men", Check.text(x, men), 3);
            CHECK.due("nobody guards", x.look(0, 10), -1);
            CHECK.due("doesn't kneel", x.look(0, 8), 0);
            CHECK.due("all coin", x.count(7), 19);
            x.go(1);
            CHECK.due("no laws", x.law(0, 0), Long.MIN_VALUE);
            CHECK.due("no laws", x.law(1, 0), Long.MIN_VALUE);
            CHECK.due("no laws", x.law(2, 0), Long.MIN_VALUE);
            CHECK.due("rate as without", x.look(0, 3), 2);
            CHECK.due("wear as without", x.look(1, 2), 8);
            CHECK.due("no muttering", x.count(3), 3);
            CHECK.due("tax as without", x.look(0, 4), 8);
            CHECK.due("ear, need as without", x.coup(), 6);
            CHECK.due("all again", Check.text(x, all), 14);
            CHECK.due("knots", x.count(1), 5);
        }
    }

    /** The fault's place is where ^ stands. */
    private static void bad(int kind, String text) {
        ThirdInLine x = new ThirdInLine();
        int place = text.indexOf('^');
        String clean = text.replace("^", "");
        CHECK.due("text " + text, Check.text(x, clean), -1);
        CHECK.due("fault of " + text, x.fault(0), kind);
        CHECK.due("place of " + text, x.fault(1), place);
    }

    private static void tokensThatCantStand() {
        String two = MAN + "man b 1 0 1 1 0 0 0;";
        String[] texts = {"^;", "^a;", "^yes;", "^levy 1;", "^7;", "^(", "^!", "^Man a", "  ^\t", "^\r", MAN + "^;", "^laws", "^wells 1 1;",
            "man^", "man ^;", "man ^1", "man ^man 1 0 1 1 0 0 0;", "man ^age 1", "man ^abcdefg 1 0 1 1 0 0 0;", "man ^A",
            "man a^", "man a \n^", "man a ^b", "man a ^-1", "man a 1 0 1 1 0 0 ^;", "man a 1 0 1 1 0 0 0^",
            "man a 1 0 1 1 0 0 0 ^no;", "man a 1 0 1 1 0 0 0 yes ^yes;", "man a 1 0 1 1 0 0 0 yes^", "man a 1 0 1 1 0 0 0 ^0;",
            "man a 1 0 1 1 0 0 0 yes ^", MAN + "guard ^;", MAN + "guard ^man a;", MAN + "guard a ^;", MAN + "guard a ^not;",
            MAN + "guard ^abcdefg a;", MAN + "guard a ^1", two + "guard a b^", two + "guard a b ^a;",
            "power ^;", "power ^10;", "power ^need 0;", "power ^kings 0;", "power crown ^;", "power crown ^tax;", "power crown 0^",
            "power crown 0 ^0;", "well ^;", "well 1 ^;", "well 1 1 ^1;", "levies ^;", "ear ^a;", "mutter ^yes;", "seed ^-1;", "seed 1^",
            "ear 3^.5;", "ear 1 ^", "ear 1 ^ear", "law ^;", "law ^tax 1;", "law ^wears 1;", "law^"};
        for (String text : texts) {
            bad(1, text);
        }
        bad(1, "well^" + (char) 0 + "1 1;");
        bad(1, "well^" + (char) 255 + "1 1;");
        bad(1, "well^" + (char) 160 + "1 1;");
        bad(1, " ".repeat(700 - 3) + "man^");
    }

    private static void tokensThatCantStandInLaws() {
        String[] rest = {"^;", "^-1;", "^+1;", "^)", "(^)", "1^", "1 ^2;", "1 ^age;", "age ^age;", "1 ^not 2;", "1 ^(2);", "(1^;", "(1 ^2);",
            "1^);", "1+^;", "1*^/2;", "1<2^<3;", "1=2 ^<>3;", "1+^not 2;", "2*^not 2;", "1<^not 2;", "1< ^=2;", "1> ^=2;", "1< ^>2;",
            "1<>^=2;", "1<=^=2;", "1=^<2;", "1>^>2;", "1>^<2;", "1>=^=2;", "not^;", "not ^and 1;", "1 and ^or 1;", "1 or ^;", "^a;", "^levy;",
            "^yes;", "age+^wages;", "^abcdefg;", "1^!2;", "1^&2;", "1 ^: 2;", "1+1^,", "(1)^(2);", "(1)^2;", "1 or not^"};
        for (String r : rest) {
            bad(1, "law levy " + r);
        }
    }

    private static void tooMuch() {
        String[] texts = {"man a ^0 0 1 1 0 0 0;", "man a ^100 0 1 1 0 0 0;", "man a 1 ^10 1 1 0 0 0;", "man a 1 0 ^0 1 0 0 0;",
            "man a 1 0 ^100 1 0 0 0;", "man a 1 0 1 ^0 0 0 0;", "man a 1 0 1 ^31 0 0 0;", "man a 1 0 1 1 ^100 0 0;",
            "man a 1 0 1 1 0 ^100 0;", "man a 1 0 1 1 0 0 ^60;", "power crown ^8;", "power judge ^8;", "power tax ^8;", "well ^1000 1;",
            "well 1 ^0;", "well 1 ^10;", "levies ^0;", "levies ^31;", "ear ^0;", "ear ^8;", "mutter ^100;", "seed ^100000;",
            "law levy ^10000;", "law need 1+^10000;", "seed ^99999999999999999999999;", "man a ^4294967297 0 1 1 0 0 0;",
            "law wear ^18446744073709551617;", "ear ^2147483648;", "law levy ((((((((^(1)))))))));",
            "law levy 1+((((((((1))))))))+((((((((^(1)))))))));"};
        for (String text : texts) {
            bad(2, text);
        }
        StringBuilder nine = new StringBuilder();
        for (char c = 'a'; c <= 'h'; c++) {
            nine.append("man ").append(c).append(" 1 0 1 1 0 0 0;");
        }
        bad(2, nine + "^man i 1 0 1 1 0 0 0;");
        bad(2, nine + "ear 1;^man a!");
    }

    private static void tooManyKnots() {
        String sixtyTwo = "law levy " + "1+".repeat(31);
        String sixtyThree = sixtyTwo + "1;";
        String sixtyFour = sixtyThree + "law wear 1;";
        CHECK.due("64 knots", Check.told(sixtyFour).count(1), 64);
        good("law levy " + "not ".repeat(63) + "1;", 1);
        good(sixtyTwo + "((((1))));law wear far;", 2);
        bad(2, sixtyTwo + "1+^1;");
        bad(2, sixtyTwo + "(1)+(^1);");
        bad(2, sixtyThree + "law wear 1 ^and 1;");
        bad(2, sixtyThree + "law wear 1 ^< 1;");
        bad(2, sixtyFour + "law need ^1;");
        bad(2, sixtyFour + "law need ^age;");
        bad(2, sixtyFour + "law need ^not 1;");
        bad(2, sixtyFour + "law need (^1);");
        bad(2, "law levy " + "not ".repeat(64) + "^not 1;");
        bad(2, "law levy " + "not ".repeat(64) + "^1;");
        CHECK.due("knots of each kind", Check.told("law levy age+(far*bucket-coin/place)<=wait and not(1 or 2);").count(1), 16);
    }

    private static void toldAlready() {
        String two = MAN + "man b 1 0 1 1 0 0 0;";
        String[] texts = {two + "man ^a 1 0 1 1 0 0 0;", two + "man ^b", two + "guard a b;guard ^a b;", two + "guard a b;guard b a;guard ^b",
            "power crown 1;power ^crown 1;", "power judge 1;power crown 1;power ^judge", "power tax 1;power ^tax 9;", "well 1 1;^well 1 1;",
            "levies 1;^levies 1;", "ear 1;well 1 1;^ear 0;", "mutter 1;^mutter", "seed 1;^seed 1;", "law levy 1;law ^levy 1;",
            "law wear 1;law levy 1;law ^wear !", "law need 1;law ^need 1;"};
        for (String text : texts) {
            bad(3, text);
        }
    }

    private static void menUntold() {
        bad(4, "guard ^a b;");
        bad(4, MAN + "guard ^b a;");
        bad(4, MAN + "guard a ^b;");
        bad(4, MAN + "guard a ^aa;");
        bad(4, "guard ^a a;" + MAN);
        bad(5, MAN + "guard a ^a;");
        bad(5, MAN + "man b 1 0 1 1 0 0 0;guard a b;guard b ^b !");
    }

    private static void firstAlongTheText() {
        bad(2, "man a 1 ^10 ! ! ! !");
        bad(1, "man ^! 1 10 1 1 0 0 0;");
        bad(3, MAN + "man ^a 100;");
        bad(1, "law levy " + "1+".repeat(31) + "1;law wear 1 ^1;");
        bad(1, "law levy " + "1+".repeat(31) + "1;law wear 1;law need ^+1;");
        bad(1, "law levy ((((((((1 ^(2)))))))));");
        bad(1, "law levy ((((((((1^(2)))))))));");
        bad(1, "law levy 1 ^10000;");
    }

    private static void faultLeavesAllElse() {
        ThirdInLine x = Check.told("man a 9 0 9 9 9 9 0;man b 9 0 9 9 9 9 0;well 50 3;law levy 2+2;");
        x.go(1);
        x.stone(1, 1, 1);
        x.keep();
        x.cough(1);
        CHECK.due("a fault", Check.text(x, "man z 5 1 6 7 8 9 3;man y 1 1 1 1 1 1 1;man x 1 1 1 1 1 1 1;well 1 1;law wear 9;ear 0;"), -1);
        CHECK.due("its kind", x.fault(0), 2);
        int[] want = {2, 3, 1, 2, 0, 0, 47, 18, 1, 1, 1, 0, 1, 2, 1};
        for (int what = 0; what < want.length; what++) {
            CHECK.due("count stays " + what, x.count(what), want[what]);
        }
        CHECK.due("law stays", x.law(0, 0), 4);
        CHECK.due("no law comes", x.law(1, 0), Long.MIN_VALUE);
        CHECK.due("undo stays", x.undo(), 0);
        CHECK.due("image stays", x.back(), 1);
        CHECK.due("names stay", x.named(1 << 25), 0);
    }

    private static void names() {
        ThirdInLine x = Check.told("man b 1 0 1 1 0 0 0;man a 1 0 1 1 0 0 0;man az 1 0 1 1 0 0 0;man abcdef 1 0 1 1 0 0 0;man zzzzzz 1 0 1 1 0 0 0;");
        CHECK.due("b", x.named(2 << 25), 0);
        CHECK.due("a", x.named(1 << 25), 1);
        CHECK.due("az", x.named(1 << 25 | 26 << 20), 2);
        CHECK.due("abcdef", x.named(1 << 25 | 2 << 20 | 3 << 15 | 4 << 10 | 5 << 5 | 6), 3);
        CHECK.due("zzzzzz", x.named(26 << 25 | 26 << 20 | 26 << 15 | 26 << 10 | 26 << 5 | 26), 4);
        CHECK.due("ab", x.named(1 << 25 | 2 << 20), -1);
        CHECK.due("a behind a gap", x.named(1 << 20), -1);
        CHECK.due("a at the lowest", x.named(1), -1);
        CHECK.due("beyond 30 bits", x.named(1 << 30 | 1 << 25), -1);
        CHECK.due("below 0", x.named(1 << 31 | 1 << 25), -1);
        CHECK.due("0", x.named(0), -1);
        CHECK.due("greatest", x.named(Integer.MAX_VALUE), -1);
    }
}
