import java.util.function.Supplier;

/**
 * The edges of the pad, of terms texts and of contracts: promises 1 to 5.
 * Above each method stand the words that it holds the class to, on both sides of their edge.
 */
public final class TextEdgesTest extends States {
    public static void main(String[] args) {
        aTextIsOneOrMoreTerms();
        aTermIsOneOrMorePartsOfOneOrMoreBits();
        aNameIsALetter();
        oneOfThreeSigns();
        aNumberHasOneToSixDigits();
        atMostSixTerms();
        atMostFiveBracketsOpenAtOnce();
        atMostThreeNotsOneBehindTheOther();
        onlyTheEndIsWrong();
        theFirstWrongSign();
        aNewObject();
        signsAre33To126();
        thePadHasAtMost80();
        thePadIsEmptyWhenRead();
        contractsAre0To7();
        termsOfAContract();
        writtenPlaces();
        writtenBrackets();
        writtenNumbers();
        endWithCount();
    }

    // "A TERMS TEXT is one or more TERMS with ";" between them"
    private static void aTextIsOneOrMoreTerms() {
        reads("", -1);
        reads(";", -1);
        reads("a<1", 0);
        reads(";a<1", -1);
        reads("a<1;", -5);
        reads("a<1;b<1", 0);
        reads("a<1;;b<1", -5);
        reads("(a<1;b<1)", -5);
    }

    // "a term is one or more PARTS with "|" between them; a part one or more BITS with "&" between them"
    private static void aTermIsOneOrMorePartsOfOneOrMoreBits() {
        for (String joint : new String[] {"|", "&"}) {
            reads(joint, -1);
            reads("a<1" + joint, -5);
            reads("a<1" + joint + "b<1", 0);
            reads("a<1" + joint + joint + "b<1", -5);
            reads("a<1" + joint + ";b<1", -5);
            reads("(a<1" + joint + ")", -6);
            reads("(" + joint + "a<1)", -2);
            reads("(a<1" + joint + "b<1)", 0);
        }
        reads("a<1|&b<1", -5);
        reads("a<1&|b<1", -5);
        reads("()", -2);
        reads("(a<1)", 0);
        reads("(a<1)(b<1)", -6);
        reads("a<1(b<1)", -4);
        reads("a<1!b<1", -4);
        reads("a<1b<1", -4);
        reads("a<1)", -4);
    }

    // "a NAME (a letter "a" .. "h", "y" or "z")"
    private static void aNameIsALetter() {
        for (char name : "abcdefghyz".toCharArray()) reads(name + "<1", 0);
        for (char name : "`ix{AHYZjw10_".toCharArray()) reads(name + "<1", -1);
        for (char name : "`ix{AHYZjw10_".toCharArray()) reads("a<1&" + name + "<1", -5);
    }

    // "one of "<", "=", ">""
    private static void oneOfThreeSigns() {
        for (char sign : "<=>".toCharArray()) reads("a" + sign + "1", 0);
        for (char sign : ";?!1a~".toCharArray()) reads("a" + sign + "1", -2);
        reads("a", -2);
        reads("a<=1", -3);
        reads("a>>1", -3);
    }

    // "a number of 1 to 6 digits"
    private static void aNumberHasOneToSixDigits() {
        reads("a<", -3);
        for (char sign : "/:a-+".toCharArray()) reads("a<" + sign, -3);
        for (int digit = 0; digit <= 9; digit++) reads("a<" + digit, 0);
        for (int digits = 1; digits <= 6; digits++) reads("a<" + "9".repeat(digits), 0);
        reads("a<9999999", -9);
        reads("a<0000001", -9);
        reads("a<000001", 0);
        reads("(a<123456)", 0);
        reads("(a<1234567)", -10);
        reads("a<123456&b<1234567", -18);
    }

    // "At most six terms"
    private static void atMostSixTerms() {
        reads("a<1;a<2;a<3;a<4;a<5", 0);
        reads("a<1;a<2;a<3;a<4;a<5;", -21);
        reads("a<1;a<2;a<3;a<4;a<5;a<6", 0);
        reads("a<1;a<2;a<3;a<4;a<5;a<6;", -24);
        reads("a<1;a<2;a<3;a<4;a<5;a<6;a<7", -24);
        reads("a<1;a<2;a<3;a<4;a<5;a<6|a<7&a<8|a<9", 0);
        reads("a<1|a<2|a<3|a<4|a<5|a<6|a<7|a<8", 0);
        reads("a<1&a<2&a<3&a<4&a<5&a<6&a<7&a<8", 0);
    }

    // "five brackets open at once"
    private static void atMostFiveBracketsOpenAtOnce() {
        reads("(((((a<1)))))", 0);
        reads("((((((a<1))))))", -6);
        reads("((((((", -6);
        reads("(((((", -6);
        reads("!(!(!(!(!(a<1)))))", 0);
        reads("!(!(!(!(!(!(a<1))))))", -12);
        reads("(((((a<1)))))&(((((b<1)))))", 0);
        reads("((((((a<1)))))", -6);
        reads("(((((a<1))))))", -14);
        reads("((((a<1))|(((b<1)))))", 0);
        reads("((((a<1))|((((b<1))))))", -14);
        reads("(((((a<1)))));(((((b<1)))))", 0);
    }

    // "three "!" one behind the other"
    private static void atMostThreeNotsOneBehindTheOther() {
        reads("!", -2);
        reads("!a<1", 0);
        reads("!!!a<1", 0);
        reads("!!!!a<1", -4);
        reads("!!!", -4);
        reads("!!!!", -4);
        reads("!!!(!!!a<1)", 0);
        reads("!!!(!!!!a<1)", -8);
        reads("!!!a<1&!!!b<1|!!!c<1;!!!d<1", 0);
        reads("a<1&!!!!b<1", -8);
        reads("(!!!!a<1)", -5);
        reads("!(!(!(!(!(a<1)))))", 0);
    }

    // "(the pad's length, if only its end is wrong)"
    private static void onlyTheEndIsWrong() {
        String text = "!(a<12|b=3)&y>4;z=0";
        // An x where the text could end.
        String right = "...........x...x...x";
        for (int end = 0; end <= text.length(); end++) {
            reads(text.substring(0, end), right.charAt(end) == 'x' ? 0 : -1 - end);
        }
        reads("a<1&".repeat(20), -81);
        reads("a<1&".repeat(19) + "b<12", 0);
        reads("a<1&".repeat(19) + "b<1", 0);
    }

    // "the first sign that no terms text could have there behind those ahead of it"
    private static void theFirstWrongSign() {
        reads("~", -1);
        reads("a~~", -2);
        reads("a<~~", -3);
        reads("a<1~~", -4);
        reads("a<1&b<1&~", -9);
        reads("a<1&i<1&i<1", -5);
        reads("a<1&".repeat(19) + "b<1~", -80);
    }

    private static void reads(String text, int answer) {
        LoanTerms x = new LoanTerms();
        due("read of " + text, read(x, text), answer);
        due("pad behind " + text, x.count(0), 0);
        due("contracts behind " + text, x.count(1), answer == 0 ? 1 : 0);
    }

    // "An empty pad; no contracts, rows, loans."
    private static void aNewObject() {
        Supplier<LoanTerms> state = LoanTerms::new;
        for (int what = 0; what <= 4; what++) due("a new object's count " + what, state.get().count(what), 0);
        keeps("no clash", -1, state, o -> o.clash(0, 0));
        refuse("no contract 0: terms", INDEX, state, o -> o.terms(0));
        refuse("no contract 0: written", INDEX, state, o -> o.written(0, -1));
        refuse("no contract 0: loan", INDEX, state, o -> o.loan(0, 0, 0, 0));
        refuse("no loan 0: shield", INDEX, state, o -> truth(o.shield(0, true)));
        refuse("no loan 0: ask", INDEX, state, o -> o.ask(0, 0));
        refuse("no loan 0: open", INDEX, state, o -> o.open(0, 0, 0));
        refuse("no loan 0: told", INDEX, state, o -> o.told(0, -1, 0));
        refuse("no loan 0: extend", INDEX, state, o -> o.extend(0, 1, 0));
        refuse("no loan 0: days", INDEX, state, o -> o.days(0));
        refuse("no loan 0: fee", INDEX, state, o -> o.fee(0));
        refuse("no loan 0: letter", INDEX, state, o -> o.letter(0, -1));
        due("an empty pad is no text", state.get().read(), -1);
        LoanTerms x = having("a<1;b<1;c<1;d<1;e<1;f<1", "g<1;h<1");
        x.loan(0, 0, 0, 100000);
        x.loan(1, 1, 0, 100000);
        for (int k = 0; k < 6; k++) due("no row of input " + k, x.open(0, 0, k), k);
        for (int k = 0; k < 2; k++) due("no row of input " + (6 + k), x.open(1, 2400000, k), k);
    }

    // "SIGNS (33 .. 126)"; "IllegalArgumentException: it is none."
    private static void signsAre33To126() {
        for (int sign = 33; sign <= 126; sign++) due("sign " + sign, new LoanTerms().unit(sign), 1);
        for (int sign : new int[] {32, 127, 31, 128, 0, -1, -33, 256 + 33, 65536 + 33, LOW, HIGH}) {
            refuse("no sign " + sign, ARGUMENT, LoanTerms::new, o -> o.unit(sign));
            refuse("no sign " + sign + " of a busy object", ARGUMENT, States::busy, o -> o.unit(sign));
        }
    }

    // "THE PAD is a row of at most 80 SIGNS"; "how many it has"; "IllegalStateException: there are 80."
    private static void thePadHasAtMost80() {
        LoanTerms x = new LoanTerms();
        for (int n = 1; n <= 80; n++) due("sign number " + n, x.unit('~'), n);
        refuse("sign 81", STATE, States::fullPad, o -> o.unit('a'));
        for (int sign : new int[] {32, 127, LOW, HIGH}) {
            refuse("sign 81, which is none", STATE, States::fullPad, o -> o.unit(sign));
        }
        due("a full pad is read", read(fullPad(), ""), 0);
    }

    // "Reads the pad as a terms text, and the pad is empty"
    private static void thePadIsEmptyWhenRead() {
        LoanTerms x = fullPad();
        due("a full pad", x.read(), 0);
        due("is empty", x.count(0), 0);
        due("and is no text", x.read(), -1);
        due("and has room", x.unit('a'), 1);
        due("a wrong text", x.read(), -2);
        due("is gone too", x.count(0), 0);
        due("a text stands alone behind it", read(x, "b<1"), 1);
        due("and is that text", written(x, 1), "b<1;");
        due("the former one stays", x.written(0, -1), "(".length() + 4 * 19 + "b<12);".length());
    }

    // "texts are CONTRACTS 0 .. 7 when they are read"; "IllegalStateException: there are eight contracts."
    private static void contractsAre0To7() {
        LoanTerms x = new LoanTerms();
        for (int n = 0; n < 8; n++) {
            due("a wrong text ahead of " + n, read(x, "a<1&"), -5);
            due("contract " + n, read(x, "a<" + n), n);
        }
        for (int n = 0; n < 8; n++) due("text of contract " + n, written(x, n), "a<" + n + ";");
        due("a loan under contract 7", x.loan(7, 0, 0, 0), 0);
        refuse("a ninth text", STATE, States::fullContracts, LoanTerms::read);
        LoanTerms full = fullContracts();
        refuse("a ninth text", STATE, full, LoanTerms::read);
        due("the pad stays", full.count(0), 3);
        due("and goes on", full.unit('&'), 4);
        refuse("a ninth text that is wrong", STATE, full, LoanTerms::read);
        due("the pad stays again", full.count(0), 4);
        refuse("contract 8", INDEX, full, o -> o.terms(8));
    }

    // "A contract's terms. IndexOutOfBoundsException."
    private static void termsOfAContract() {
        StringBuilder text = new StringBuilder("a<1");
        for (int n = 1; n <= 6; n++) {
            due("terms of " + text, having(text.toString()).terms(0), n);
            text.append(";a<1");
        }
        due("parts and bits are no terms", having("a<1|b<1&c<1").terms(0), 1);
        for (int n : new int[] {-1, 2, 7, 8, LOW, HIGH}) {
            refuse("terms of " + n, INDEX, States::busy, o -> o.terms(n));
        }
        due("terms of the last one", busy().terms(1), 1);
    }

    // "i = -1: how many signs it has. IndexOutOfBoundsException."
    private static void writtenPlaces() {
        due("how many", busy().written(1, -1), 4);
        due("the first", busy().written(1, 0), 'z');
        due("the last", busy().written(1, 3), ';');
        for (int i : new int[] {-2, 4, 5, LOW, HIGH}) {
            refuse("sign " + i, INDEX, States::busy, o -> o.written(1, i));
        }
        for (int n : new int[] {-1, 2, 7, 8, LOW, HIGH}) {
            refuse("how many of " + n, INDEX, States::busy, o -> o.written(n, -1));
            refuse("the first of " + n, INDEX, States::busy, o -> o.written(n, 0));
        }
        String longest = "(" + "(a<1&b<2)|".repeat(9) + "(a<1&b<2));";
        due("longer than the pad", written(having("a<1&b<2|".repeat(9) + "a<1&b<2"), 0), longest);
        due("of 80 signs", written(fullPadRead(), 0), "(" + "a<1&".repeat(19) + "b<12);");
    }

    private static LoanTerms fullPadRead() {
        LoanTerms x = fullPad();
        x.read();
        return x;
    }

    // "two or more parts in "(" ")" with "|" between them, two or more bits likewise with "&", no other brackets"
    private static void writtenBrackets() {
        writes("a<1", "a<1;");
        writes("a<1;b<1;c<1;d<1;e<1;f<1", "a<1;b<1;c<1;d<1;e<1;f<1;");
        writes("(a<1)", "a<1;");
        writes("(((((a<1)))))", "a<1;");
        writes("a<1|b<1", "(a<1|b<1);");
        writes("(a<1|b<1)", "(a<1|b<1);");
        writes("((a<1)|(b<1))", "(a<1|b<1);");
        writes("a<1&b<1", "(a<1&b<1);");
        writes("(a<1)&(b<1)", "(a<1&b<1);");
        writes("a<1&b<1|c<1", "((a<1&b<1)|c<1);");
        writes("a<1&(b<1|c<1)", "(a<1&(b<1|c<1));");
        writes("a<1|b<1&c<1|d<1", "(a<1|(b<1&c<1)|d<1);");
        writes("!a<1", "!a<1;");
        writes("!!!a<1", "!!!a<1;");
        writes("!(a<1)", "!a<1;");
        writes("!!!(!!!a<1)", "!!!!!!a<1;");
        writes("!(a<1&b<1)", "!(a<1&b<1);");
        writes("!a<1|!b<1", "(!a<1|!b<1);");
        writes("(a<1|b<1)|c<1", "((a<1|b<1)|c<1);");
        writes("a<1&(b<1&c<1)", "(a<1&(b<1&c<1));");
        writes("y>0;z=1|h<2", "y>0;(z=1|h<2);");
    }

    // "numbers without 0 ahead (0 is 0)"
    private static void writtenNumbers() {
        String[][] pairs = {{"0", "0"}, {"00", "0"}, {"000000", "0"}, {"1", "1"}, {"01", "1"}, {"000001", "1"}, {"10", "10"},
            {"000010", "10"}, {"100000", "100000"}, {"010000", "10000"}, {"999999", "999999"}, {"099999", "99999"}, {"9", "9"}};
        for (String[] pair : pairs) writes("a=" + pair[0], "a=" + pair[1] + ";");
    }

    private static void writes(String text, String due) {
        due(text + " is written", written(having(text), 0), due);
    }
}
