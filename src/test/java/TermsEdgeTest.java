import java.util.ArrayList;
import java.util.List;

/** The edges that the terms (==== 1) name: ranges, words, signs, knots, and each fault with its place. */
public final class TermsEdgeTest {
    private static final Check CHECK = new Check();
    private static final String A = "man a 1 0 1 1 0 0 0;";
    private static final String AB = A + "man b 1 0 1 1 0 0 0;";

    public static void main(String[] args) {
        ranges();
        rangesAreKept();
        withoutLines();
        lettersOfAWord();
        wordsOfTheLanguage();
        eachByteAlone();
        theMarkItself();
        eachByteBetween();
        eightMen();
        eightOpen();
        knotsOfEachKind();
        moreMustCome();
        noTokenAnywhere();
        toldAlready();
        toldOnceEach();
        guards();
        comparisons();
        twoAtOnePlace();
        theFirstAlongTheText();
        CHECK.end("TermsEdgeTest");
    }

    private static void good(String text, int lines) {
        ThirdInLine x = new ThirdInLine();
        CHECK.due("lines of " + text, Check.text(x, text), lines);
        CHECK.due("no fault of " + text, x.fault(0), 0);
        CHECK.due("no place of " + text, x.fault(1), -1);
    }

    /** The fault's place is where ^ stands. */
    private static void bad(int kind, String text) {
        ThirdInLine x = new ThirdInLine();
        CHECK.due("text " + text, Check.text(x, text.replace("^", "")), -1);
        CHECK.due("fault of " + text, x.fault(0), kind);
        CHECK.due("place of " + text, x.fault(1), text.indexOf('^'));
    }

    private static void range(String ahead, int least, int most, String behind) {
        good(ahead + least + behind, 1);
        good(ahead + most + behind, 1);
        good(ahead + "0".repeat(30) + most + behind, 1);
        if (least > 0) {
            bad(2, ahead + "^" + (least - 1) + behind);
            bad(2, ahead + "^" + "0".repeat(30) + behind);
        }
        bad(2, ahead + "^" + (most + 1) + behind);
        bad(2, ahead + "^" + most + "0".repeat(30) + behind);
        // these would be the least one in 32 and in 64 bits
        bad(2, ahead + "^" + ((1L << 32) + least) + behind);
        bad(2, ahead + "^" + (least == 0 ? "18446744073709551616" : "18446744073709551617") + behind);
        bad(1, ahead + "^-1" + behind);
    }

    private static void ranges() {
        range("man a ", 1, 99, " 0 1 1 0 0 0;");
        range("man a 1 ", 0, 9, " 1 1 0 0 0;");
        range("man a 1 0 ", 1, 99, " 1 0 0 0;");
        range("man a 1 0 1 ", 1, 30, " 0 0 0;");
        range("man a 1 0 1 1 ", 0, 99, " 0 0;");
        range("man a 1 0 1 1 0 ", 0, 99, " 0;");
        range("man a 1 0 1 1 0 0 ", 0, 59, ";");
        range("power crown ", 0, 7, ";");
        range("power judge ", 0, 7, ";");
        range("power tax ", 0, 7, ";");
        range("well ", 0, 999, " 1;");
        range("well 0 ", 1, 9, ";");
        range("levies ", 1, 30, ";");
        range("ear ", 1, 7, ";");
        range("mutter ", 0, 99, ";");
        range("seed ", 0, 99999, ";");
        range("law levy ", 0, 9999, ";");
        range("law wear ", 0, 9999, ";");
        range("law need ", 0, 9999, ";");
    }

    private static void rangesAreKept() {
        ThirdInLine x = Check.told("man a 1 0 1 1 0 0 0;man b 99 9 99 30 99 99 59 yes;power crown 7;power judge 0;power tax 7;well 999 9;");
        int[] least = {1, 0, 1, 0, 0};
        int[] most = {99, 9, 99, 0, 99};
        for (int what = 0; what < least.length; what++) {
            CHECK.due("least " + what, x.look(0, what), least[what]);
            CHECK.due("most " + what, x.look(1, what), most[what]);
        }
        CHECK.due("crown", x.count(11), 7);
        CHECK.due("judge", x.count(12), 0);
        CHECK.due("tax", x.count(13), 7);
        CHECK.due("water", x.count(6), 999);
        CHECK.due("a bucket of 1 at minute 0", x.served(0), 0);
        CHECK.due("a bucket of 30 by 9 from minute 59 on", x.served(1), 62);
        CHECK.due("no water", Check.told("well 0 1;").count(6), 0);
    }

    private static void withoutLines() {
        ThirdInLine x = Check.told("man a 9 0 90 30 50 0 0;man b 9 1 90 30 50 0 0;man c 9 2 90 30 50 0 0;man d 9 3 90 30 50 0 0;man e 9 4 90 30 50 0 0;");
        CHECK.due("water", x.count(6), 200);
        CHECK.due("crown", x.count(11), 0);
        CHECK.due("judge", x.count(12), 1);
        CHECK.due("tax", x.count(13), 2);
        x.go(1);
        CHECK.due("rate", x.look(0, 3), 2);
        CHECK.due("levy 1, of four", x.look(2, 4), 54);
        CHECK.due("wear 1", x.look(4, 2), 89);
        CHECK.due("ear 3, need 3", x.coup(), 2 + 4 + 8);
        x.go(9);
        CHECK.due("levies 10: not till 9", x.look(2, 4), 54);
        CHECK.due("mutter 0", x.count(3), 5);
        x.go(1);
        CHECK.due("levies 10: at 10", x.look(2, 4), 58);
    }

    private static void lettersOfAWord() {
        good("man a 1 0 1 1 0 0 0;", 1);
        good("man abcdef 1 0 1 1 0 0 0;", 1);
        bad(1, "man ^abcdefg 1 0 1 1 0 0 0;");
        bad(1, "man ^" + "a".repeat(600) + " 1 0 1 1 0 0 0;");
        bad(1, "man abcdef 1 0 1 1 0 0 0;guard ^abcdefg a;");
        bad(1, "man abcdef 1 0 1 1 0 0 0;guard abcdef ^abcdefg;");
        // seven letters, of which the first six are a word of the language
        bad(1, "^levieso 3;");
        bad(1, "^mutterer 3;");
        bad(1, "law levy ^buckets;");
        bad(1, "^levie 3;");
        bad(1, "^ears 3;");
        bad(1, "^Ear 3;");
        bad(1, "man ^A 1 0 1 1 0 0 0;");
        bad(1, "man a^A 1 0 1 1 0 0 0;");
        good("man mans 1 0 1 1 0 0 0;man ma 1 0 1 1 0 0 0;man yess 1 0 1 1 0 0 0;man o 1 0 1 1 0 0 0;", 4);
    }

    private static final String[] WORDS = {"man", "guard", "power", "well", "levies", "ear", "mutter", "seed", "law", "crown", "judge", "tax", "levy", "wear",
        "need", "yes", "age", "far", "bucket", "coin", "place", "wait", "and", "or", "not"};

    private static void wordsOfTheLanguage() {
        for (String word : WORDS) {
            bad(1, "man ^" + word + " 1 0 1 1 0 0 0;");
            bad(1, AB + "guard ^" + word + " a;");
            bad(1, AB + "guard a ^" + word + ";");
        }
        for (int i = 0; i < WORDS.length; i++) {
            if (i > 8) {
                bad(1, "^" + WORDS[i] + " 1;");
            }
            if (i < 9 || i > 11) {
                bad(1, "power ^" + WORDS[i] + " 1;");
            }
            if (i < 12 || i > 14) {
                bad(1, "law ^" + WORDS[i] + " 1;");
            }
            if (i != 15) {
                bad(1, "man a 1 0 1 1 0 0 0 ^" + WORDS[i] + ";");
            }
            if (i < 16 || i > 21) {
                bad(1, "law levy 1+^" + WORDS[i] + ";");
            } else {
                good("law levy 1+" + WORDS[i] + ";", 1);
            }
            if (i < 22 || i > 23) {
                bad(1, "law levy 1 ^" + WORDS[i] + ";");
            }
        }
    }

    private static void eachByteAlone() {
        for (int b = 0; b < 256; b++) {
            if (b == 10 || b == 32) {
                good(String.valueOf((char) b), 0);
            } else if (b != '^') {
                bad(1, "^" + (char) b);
                bad(1, " ^" + (char) b);
            }
        }
    }

    /** The sign that marks a place in these tests can't be in their texts. */
    private static void theMarkItself() {
        ThirdInLine x = new ThirdInLine();
        CHECK.due("no token", Check.text(x, "ear^3;"), -1);
        CHECK.due("fault", x.fault(0), 1);
        CHECK.due("place", x.fault(1), 3);
    }

    private static void eachByteBetween() {
        for (int b = 0; b < 256; b++) {
            char sign = (char) b;
            if (b == 10 || b == 32 || b == '0') {
                good("ear" + sign + "3;", 1);
            } else if (b >= '1' && b <= '9') {
                bad(2, "ear^" + sign + "3;");
            } else if (b >= 'a' && b <= 'z') {
                bad(1, "^ear" + sign + "3;");
            } else if (b != '^') {
                bad(1, "ear^" + sign + "3;");
            }
        }
    }

    private static String men(int many) {
        StringBuilder men = new StringBuilder();
        for (int i = 0; i < many; i++) {
            men.append("man ").append((char) ('a' + i)).append(" 1 0 1 1 0 0 0;");
        }
        return men.toString();
    }

    private static void eightMen() {
        good(men(8), 8);
        CHECK.due("eight", Check.told(men(8)).count(0), 8);
        bad(2, men(8) + "^man i 1 0 1 1 0 0 0;");
        bad(2, men(8) + "^man a 1 0 1 1 0 0 0;");
        bad(2, men(8) + "^man");
        bad(2, men(8) + "^man yes");
        bad(2, men(8) + "^man abcdefg");
        bad(1, men(7) + "man h 1 0 1 1 0 0 0 ^man i 1 0 1 1 0 0 0;");
        good(men(8) + "guard a h;ear 1;", 10);
    }

    private static void eightOpen() {
        good("law levy ((((((((1))))))));", 1);
        good("law levy ((((((((1))))))))+((((((((1))))))));", 1);
        good("law levy (((((((1)+(2)+(3)+(4)))))));", 1);
        bad(2, "law levy ((((((((^(1)))))))));");
        bad(2, "law levy (1)+((((((((^(1)))))))));");
        bad(2, "law levy ((((((((1)+(2))+(3)*((^(1;");
        bad(2, "law levy ((((((((^(");
        bad(2, "law levy ((((((((not ^(1)))))))));");
        good("law levy ((((((((1))))))));law wear ((((((((1))))))));", 2);
        bad(1, "law levy ((((((((1)))))))^;");
        bad(1, "law levy ((((((((1))))))))^);");
    }

    /** 62 knots, behind which another sign or a part may come. */
    private static final String SIXTY_TWO = "law levy " + "1+".repeat(30) + "1;law wear 1;";

    private static void knotsOfEachKind() {
        CHECK.due("62", Check.told(SIXTY_TWO).count(1), 62);
        CHECK.due("64", Check.told(SIXTY_TWO + "law need not 1;").count(1), 64);
        String[] parts = {"0", "9999", "age", "far", "bucket", "coin", "place", "wait"};
        String[] signs = {"+", "-", "*", "/", "<", "<=", "=", "<>", ">=", ">", " and ", " or "};
        String sixtyThree = "law levy " + "1+".repeat(31) + "1;law need ";
        String sixtyFour = "law levy not " + "1+".repeat(30) + "1;law wear not 1;law need ";
        for (String part : parts) {
            good(sixtyThree + part + ";", 2);
            bad(2, SIXTY_TWO + "law need not not ^" + part + ";");
            bad(2, SIXTY_TWO + "law need not not((((^" + part + "))));");
            bad(2, SIXTY_TWO + "law need 1-^" + part + ";");
        }
        for (String sign : signs) {
            String bare = sign.trim();
            bad(2, sixtyThree + "1 ^" + bare + " 1;");
            bad(2, sixtyThree + "(1)^" + bare + "(1);");
            bad(2, SIXTY_TWO + "law need 1 " + bare + " ^1;");
        }
        bad(2, sixtyFour + "^not 1;");
        bad(2, SIXTY_TWO + "law need not not ^not 1;");
        good("law levy " + "not ".repeat(63) + "1;", 1);
        bad(2, "law levy " + "not ".repeat(64) + "^1;");
        bad(2, "law levy " + "not ".repeat(64) + "^not 1;");
        CHECK.due("knots of a fault don't count", faultyKnots(), 1);
    }

    private static int faultyKnots() {
        ThirdInLine x = Check.told("law levy 1;");
        Check.text(x, "law levy 1+2+3;!");
        return x.count(1);
    }

    private static final String[] TOKENS = {"man", "a", "1", "0", "1", "1", "0", "0", "0", "yes", ";", "man", "b", "1", "0", "1", "1", "0", "0", "0", ";",
        "guard", "a", "b", ";", "power", "crown", "1", ";", "power", "judge", "1", ";", "power", "tax", "1", ";", "well", "1", "1", ";", "levies", "1", ";",
        "ear", "1", ";", "mutter", "1", ";", "seed", "1", ";", "law", "levy", "not", "(", "age", "+", "1", ")", "<=", "2", "and", "3", ";", "law", "wear", "1",
        "or", "2", "*", "3", ";", "law", "need", "(", "(", "4", ")", ")", ";"};

    /** Behind each TOKEN but the last one of a LINE more must come: the place is the length. */
    private static void moreMustCome() {
        StringBuilder text = new StringBuilder();
        int lines = 0;
        for (String token : TOKENS) {
            text.append(token);
            if (token.equals(";")) {
                lines++;
                good(text.toString(), lines);
                good(text + " \n", lines);
            } else {
                bad(1, text + "^");
                bad(1, text + " ^");
                bad(1, text + " \n ^");
            }
            text.append(' ');
        }
    }

    /** A sign that is no TOKEN is a FAULT behind each TOKEN, at its place. */
    private static void noTokenAnywhere() {
        StringBuilder text = new StringBuilder();
        for (String token : TOKENS) {
            for (String none : new String[] {"!", "abcdefg", "\t", "A", "\u00ff"}) {
                bad(1, text + "^" + none);
            }
            text.append(token).append(' ');
        }
    }

    private static void toldAlready() {
        bad(3, AB + "man ^a 1 0 1 1 0 0 0;");
        bad(3, AB + "man ^b 1 0 1 1 0 0 0;");
        good(AB + "man aa 1 0 1 1 0 0 0;man ab 1 0 1 1 0 0 0;", 4);
        bad(3, AB + "guard a b;guard ^a b;");
        bad(3, AB + "man c 1 0 1 1 0 0 0;guard a b;guard ^a c;");
        bad(3, "power crown 0;power ^crown 0;");
        bad(3, "power judge 1;power ^judge 2;");
        bad(3, "power tax 7;power ^tax 7;");
        bad(3, "well 1 1;^well 2 2;");
        bad(3, "levies 1;^levies 2;");
        bad(3, "ear 1;^ear 2;");
        bad(3, "mutter 0;^mutter 0;");
        bad(3, "seed 0;^seed 0;");
        bad(3, "law levy 1;law ^levy 1;");
        bad(3, "law wear 1;law ^wear 1;");
        bad(3, "law need 1;law ^need 1;");
    }

    private static void toldOnceEach() {
        good("power crown 3;power judge 3;power tax 3;well 1 1;levies 1;ear 1;mutter 1;seed 1;law levy 1;law wear 1;law need 1;", 11);
        ThirdInLine x = Check.told("ear 1;well 1 1;");
        CHECK.due("another text tells it again", Check.text(x, "ear 1;well 1 1;"), 2);
        CHECK.due("also behind a fault", Check.text(x, "ear 1;!"), -1);
        CHECK.due("tells it again", Check.text(x, "ear 1;"), 1);
    }

    private static void guards() {
        bad(4, "guard ^a b;");
        bad(4, A + "guard ^b a;");
        bad(4, A + "guard a ^b;");
        bad(4, A + "guard a ^b;man b 1 0 1 1 0 0 0;");
        bad(4, "guard ^a b;" + AB);
        bad(5, A + "guard a ^a;");
        bad(5, AB + "guard a b;guard b ^b;");
        good(AB + "guard a b;guard b a;", 4);
        good(AB + "man c 1 0 1 1 0 0 0;guard a c;guard b c;", 5);
        ThirdInLine x = Check.told(AB + "guard b a;");
        CHECK.due("a guards nobody", x.look(0, 10), -1);
        CHECK.due("b guards a", x.look(1, 10), 0);
    }

    private static void comparisons() {
        String[] signs = {"<", "<=", "=", "<>", ">=", ">"};
        for (String sign : signs) {
            good("law levy 1" + sign + "2;", 1);
            good("law levy 1 " + sign + " 2;", 1);
            for (String other : signs) {
                // two signs in a row: <= <> >= are one, whatever else comes is a fault
                String both = sign + other;
                if (both.equals("<=") || both.equals("<>") || both.equals(">=")) {
                    good("law levy 1" + both + "2;", 1);
                } else if ((both.startsWith("<=") || both.startsWith("<>") || both.startsWith(">=")) && sign.length() == 1) {
                    bad(1, "law levy 1" + both.substring(0, 2) + "^" + both.substring(2) + "2;");
                } else {
                    bad(1, "law levy 1" + sign + "^" + other + "2;");
                }
                bad(1, "law levy 1" + sign + " ^" + other + "2;");
                bad(1, "law levy 1" + sign + "2^" + other + "3;");
            }
        }
    }

    /** Where two FAULTS could stand at one place, it is the least. */
    private static void twoAtOnePlace() {
        List<String> first = new ArrayList<>();
        // 1 and 2: a number beyond all, a ninth man, a ninth '(', a 65th KNOT that can't stand there
        first.add("man ^100000 1 0 1 1 0 0 0;");
        first.add("man a 1 0 1 1 0 0 0 ^100000;");
        first.add("power ^8;");
        first.add("power crown 1 ^8;");
        first.add("well 1 1 ^1000;");
        first.add("ear 1 ^8;");
        first.add("law ^10000;");
        first.add("law levy 1 ^10000;");
        first.add("^10000;");
        first.add(men(8) + "ear ^man i;");
        first.add(men(8) + "guard ^man;");
        first.add(men(8) + "law levy ^man;");
        first.add("law levy ((((((((1^(");
        first.add("law levy ((((((((1 ^(2)))))))));");
        first.add(SIXTY_TWO + "law need not 1 ^1;");
        first.add(SIXTY_TWO + "law need not 1 ^age;");
        first.add(SIXTY_TWO + "law need not 1 ^not 1;");
        first.add(SIXTY_TWO + "law need not 1 ^10000;");
        first.add(SIXTY_TWO + "law need not not ^+1;");
        first.add(SIXTY_TWO + "law need not not ^and 1;");
        first.add(SIXTY_TWO + "law need not not ^<1;");
        first.add("law levy " + "1+".repeat(31) + "^+1;");
        first.add("law levy " + "1+".repeat(30) + "1<1^<1;");
        // 1 and 3: what is told already, where it can't stand
        first.add("well 1 1^well 1 1;");
        first.add("ear 1;levies ^ear 1;");
        first.add("power crown 1;^crown 1;");
        first.add("power crown 1;power judge ^crown;");
        first.add("law levy 1;^levy 1;");
        first.add("law levy 1;law wear ^levy;");
        first.add(A + "man b ^a;");
        first.add(A + "^a;");
        first.add(AB + "guard a b;guard b a ^a;");
        // 1 and 4, 1 and 5: a name where none can stand, a word that is no name
        first.add("^b;");
        first.add("man a ^b;");
        first.add(AB + "guard a b ^c;");
        first.add(AB + "guard ^abcdefg a;");
        first.add(AB + "guard a ^abcdefg;");
        first.add(AB + "guard ^man a;");
        first.add(AB + "guard a ^man;");
        first.add(AB + "guard a b ^a;");
        for (String text : first) {
            bad(1, text);
        }
        // 2 twice
        bad(2, SIXTY_TWO + "law need not not ^10000;");
        bad(2, SIXTY_TWO + "law need 1+(((((((^10000)))))));");
    }

    private static void theFirstAlongTheText() {
        bad(2, "ear ^0 !");
        bad(2, "ear ^0");
        bad(2, "man a ^0 10 100 31 100 100 60;");
        bad(2, "man a 1 ^10 100 31 100 100 60;");
        bad(2, "man a 1 0 1 1 0 0 ^60 no;");
        bad(3, A + "man ^a 0 10 0 0 100 100 60;");
        bad(2, men(8) + "^man a 0 10 0 0;");
        bad(3, AB + "guard a b;guard ^a a;");
        bad(3, AB + "guard a b;guard ^a z;");
        bad(4, A + "guard ^z z;");
        bad(4, A + "guard ^z a;!");
        bad(5, A + "guard a ^a a;");
        bad(3, "ear 1;^ear 8;");
        bad(3, "power tax 1;power ^tax 8;");
        bad(3, "well 1 1;^well");
        bad(3, "law levy 1;law ^levy");
        bad(2, "law levy ^10000 10000;");
        bad(2, "law levy 1+^10000;law levy 1;");
        bad(1, "^!" + "man a 0;");
        bad(1, "ear 1 ^ear 0;");
    }
}
