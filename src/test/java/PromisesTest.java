/** One method for each promise of the document: ordinary inputs, the edges, and wrong inputs. */
public final class PromisesTest extends Checks {
    public static void main(String[] args) {
        promise1NewObject();
        promise2Unit();
        promise3Read();
        promise3ReadLimits();
        promise3ReadEachSign();
        deepestText();
        promise4Terms();
        promise5Written();
        promise6Input();
        promise6InputSixty();
        promise7Fails();
        promise8Loan();
        promise8LoanTwenty();
        promise9Shield();
        promise10Ask();
        promise10AskOrder();
        promise10AskHundred();
        promise10AskLeftToRight();
        promise11Open();
        promise12Told();
        promise13Extend();
        promise14Request();
        promise15Clash();
        promise16Days();
        promise17Fee();
        promise18Letter();
        promise19Count();
        endWithCount();
    }

    private static void promise1NewObject() {
        LoanTerms x = new LoanTerms();
        for (int what = 0; what <= 4; what++) due("a new object counts " + what, x.count(what), 0);
        due("NONE", LoanTerms.NONE, -1);
        due("no clash yet", x.clash(0, 0), -1);
        refuse("no contract yet", INDEX, x, o -> o.terms(0));
        refuse("no loan yet", INDEX, x, o -> o.days(0));
        LoanTerms other = new LoanTerms();
        read(other, "a<1");
        due("objects are apart", x.count(1), 0);
    }

    private static void promise2Unit() {
        LoanTerms x = new LoanTerms();
        refuse("32 is no sign", ARGUMENT, x, o -> o.unit(32));
        refuse("127 is no sign", ARGUMENT, x, o -> o.unit(127));
        refuse("0 is no sign", ARGUMENT, x, o -> o.unit(0));
        refuse("the lowest int is no sign", ARGUMENT, x, o -> o.unit(LOW));
        refuse("the highest int is no sign", ARGUMENT, x, o -> o.unit(HIGH));
        due("nothing was put on the pad", x.count(0), 0);
        due("33 is a sign", x.unit(33), 1);
        due("126 is a sign", x.unit(126), 2);
        for (int n = 3; n <= 80; n++) due("sign " + n, x.unit('a'), n);
        refuse("there are 80", STATE, x, o -> o.unit('a'));
        refuse("there are 80, and it is no sign", STATE, x, o -> o.unit(0));
        due("still 80", x.count(0), 80);
        due("'~' is wrong behind '!'", x.read(), -2);
        due("the pad is empty", x.count(0), 0);
        due("and takes signs again", x.unit('a'), 1);
    }

    private static void promise3Read() {
        LoanTerms x = new LoanTerms();
        String[] bad = {"", "1", "<", "i<1", "x<1", "A<1", "&", "|", ";", ")", "a", "a!", "aa", "a<", "a<a", "a<<1", "a<=1",
            "a<1a", "a<1!", "a<1(", "a<1)", "a<1&", "a<1&&b<1", "a<1|", "a<1||b<1", "a<1|&", "a<1;", "a<1;;", "a<1;)",
            "(", "()", "(a<1", "(a<1;b<1)", "(a<1))", "(a<1)(", "(a<1)b", "(a<1)1", "(a<1)!", "!", "!)", "!(", "a<1234567",
            "a<000000", "a<0000000", "!!!a<1", "!!!!a<1", "!!!(!!!(!!!a<1))", "!!!(!!!!a<1)", "~", "y=1&z", "g>1|h"};
        int[] due = {-1, -1, -1, -1, -1, -1, -1, -1, -1, -1, -2, -2, -2, -3, -3, -3, -3,
            -4, -4, -4, -4, -5, -5, -5, -5, -5, -5, -5, -5,
            -2, -2, -5, -5, -6, -6, -6, -6, -6, -2, -2, -3, -9,
            0, -9, 1, -4, 2, -8, -1, -6, -6};
        for (int i = 0; i < bad.length; i++) {
            due("read of " + bad[i], read(x, bad[i]), due[i]);
            due("the pad is empty behind " + bad[i], x.count(0), 0);
        }
        due("wrong texts are no contracts", x.count(1), 3);
    }

    private static void promise3ReadLimits() {
        LoanTerms x = new LoanTerms();
        due("five brackets", read(x, "(((((a<1)))))"), 0);
        due("six brackets", read(x, "((((((a<1))))))"), -6);
        due("a sixth bracket further in", read(x, "((((b<1&(!(a<1"), -11);
        due("brackets that are closed are not open", read(x, "((((a<1))))&((((b<1&(c<1)))))"), 1);
        due("six terms", read(x, "a<1;a<2;a<3;a<4;a<5;a<6"), 2);
        due("a seventh term", read(x, "a<1;a<2;a<3;a<4;a<5;a<6;a<7"), -24);
        due("only ';' behind six terms", read(x, "a<1;a<2;a<3;a<4;a<5;a<6;"), -24);
        due("all names", read(x, "a<1&b<1&c<1&d<1&e<1&f<1&g<1&h<1&y<1&z<1"), 3);
        String eighty = "a<1&".repeat(19) + "a<10";
        due("80 signs", read(x, eighty), 4);
        due("80 signs whose end is wrong", read(x, "a<1&".repeat(20)), -81);
        for (int n = 5; n < 8; n++) due("contract " + n, read(x, "a<1"), n);
        put(x, "a<2");
        refuse("there are eight contracts", STATE, x, LoanTerms::read);
        due("the pad stays", x.count(0), 3);
        x.unit('!');
        refuse("there are eight contracts, and the text is wrong", STATE, x, LoanTerms::read);
        due("the pad stays again", x.count(0), 4);
        due("eight contracts", x.count(1), 8);
    }

    /** Behind each start, which of all signs a terms text could have next. */
    private static void promise3ReadEachSign() {
        String bit = "!(abcdefghyz";
        String digits = "0123456789";
        String[][] starts = {{"", bit}, {"a", "<=>"}, {"z>", digits}, {"a<1", digits + "&|;"}, {"a<12345", digits + "&|;"},
            {"a<123456", "&|;"}, {"(a<1", digits + "&|)"}, {"(a<123456", "&|)"}, {"(a<1)", "&|;"}, {"((a<1)", "&|)"},
            {"a<1&", bit}, {"a<1|", bit}, {"a<1;", bit}, {"(", bit}, {"!", bit}, {"!!!", bit.substring(1)}, {"!!!(", bit},
            {"(((((", "!abcdefghyz"}, {"a<1;a<1;a<1;a<1;a<1;a<123456", "&|"}};
        for (String[] start : starts) {
            for (char sign = 33; sign <= 126; sign++) {
                int answer = read(new LoanTerms(), start[0] + sign + "~");
                int place = start[0].length() + (start[1].indexOf(sign) >= 0 ? 1 : 0);
                due("read of " + start[0] + sign + "~", answer, -1 - place);
            }
        }
    }

    /** 31 levels, one within the other, on the fullest pad. */
    private static void deepestText() {
        LoanTerms x = new LoanTerms();
        due("the deepest text", read(x, "b=1|b=0&!!!(".repeat(5) + "b=1|b=0&!!!a=1" + ")".repeat(5)), 0);
        String deepest = "(b=1|(b=0&!!!".repeat(6) + "a=1" + "))".repeat(6) + ";";
        due("is written", written(x, 0), deepest);
        x.loan(0, 0, 0, 9);
        x.input(1, 0, 0);
        due("open at the bottom", x.open(0, 0, 0), 0);
        x.input(0, 1, 1);
        due("six turns are none", x.ask(0, 1), 0);
        x.input(0, 2, 0);
        due("broken at the bottom", x.ask(0, 2), 1);
    }

    private static void promise4Terms() {
        LoanTerms x = new LoanTerms();
        read(x, "a<1");
        read(x, "a<1;(b<1|c<1)&d<1;y=0");
        read(x, "a<1;a<1;a<1;a<1;a<1;a<1");
        due("one term", x.terms(0), 1);
        due("three terms", x.terms(1), 3);
        due("six terms", x.terms(2), 6);
        for (int n : new int[] {-1, 3, 7, 8, LOW, HIGH}) refuse("terms of " + n, INDEX, x, o -> o.terms(n));
    }

    private static void promise5Written() {
        String[][] pairs = {{"a<1", "a<1;"}, {"a<000", "a<0;"}, {"a=000120", "a=120;"}, {"a>999999", "a>999999;"},
            {"a<1|b<2|c<3", "(a<1|b<2|c<3);"}, {"a<1&b<2&c<3", "(a<1&b<2&c<3);"},
            {"a<1&b<2|c<3", "((a<1&b<2)|c<3);"}, {"a<1|b<2&c<3", "(a<1|(b<2&c<3));"},
            {"(((a<1)))", "a<1;"}, {"!(a<1)", "!a<1;"}, {"!!!(!(a<1))", "!!!!a<1;"}, {"!(a<1|b<1)", "!(a<1|b<1);"},
            {"(a<1|b<1)|c<1", "((a<1|b<1)|c<1);"}, {"(a<1&b<1)&c<1", "((a<1&b<1)&c<1);"},
            {"c<1&((a<1|b<1))", "(c<1&(a<1|b<1));"}, {"z=1;y>02;h<3", "z=1;y>2;h<3;"},
            {"(a<1);((b<1|c<1)&d<1)", "a<1;((b<1|c<1)&d<1);"}};
        for (String[] pair : pairs) {
            LoanTerms x = new LoanTerms();
            read(x, pair[0]);
            due(pair[0] + " is written " + pair[1], written(x, 0), pair[1]);
        }
        LoanTerms x = new LoanTerms();
        read(x, "a<1");
        read(x, "a<1&b<2|".repeat(9) + "a<1&b<2");
        String longest = "(" + "(a<1&b<2)|".repeat(9) + "(a<1&b<2));";
        due("a contract longer than the pad", written(x, 1), longest);
        due("the first contract stays", written(x, 0), "a<1;");
        for (int i : new int[] {-2, 4, LOW, HIGH}) refuse("written(0, " + i + ")", INDEX, x, o -> o.written(0, i));
        for (int n : new int[] {-1, 2, 8, LOW, HIGH}) refuse("written(" + n + ", -1)", INDEX, x, o -> o.written(n, -1));
    }

    private static void promise6Input() {
        LoanTerms x = new LoanTerms();
        for (int n : new int[] {-1, 8, LOW, HIGH}) {
            refuse("input " + n, INDEX, x, o -> o.input(n, 0, 0));
            refuse("input " + n + " with a wrong hour and value", INDEX, x, o -> o.input(n, -1, -1));
        }
        refuse("hour -1", ARGUMENT, x, o -> o.input(0, -1, 0));
        refuse("hour 2400001", ARGUMENT, x, o -> o.input(0, 2400001, 0));
        refuse("value -1", ARGUMENT, x, o -> o.input(0, 0, -1));
        refuse("value 1000000", ARGUMENT, x, o -> o.input(0, 0, 1000000));
        due("no row came of these", x.count(4), 0);
        due("hour 0", x.input(0, 0, 0), 1);
        refuse("the same hour", ARGUMENT, x, o -> o.input(0, 0, 5));
        due("the next hour", x.input(0, 1, 999999), 2);
        refuse("an hour before", ARGUMENT, x, o -> o.input(0, 0, 5));
        due("the last hour", x.input(0, 2400000, 1), 3);
        refuse("no hour is above", ARGUMENT, x, o -> o.input(0, 2400000, 1));
        due("another input is apart", x.input(7, 0, 3), 1);
        read(x, "a=0;a=999999;a=1;h=3");
        x.loan(0, 0, 0, 100000);
        due("value at hour 0", x.ask(0, 0), 2);
        due("value at hour 1", x.ask(0, 1), 1);
        due("value before the last row", x.ask(0, 2399999), 1);
        due("told 1, 2, 0", x.told(0, 2, 1), 0);
        due("value at the last hour", x.ask(0, 2400000), 1);
        due("term 2 is good there", x.told(0, -1, 0), 4);
    }

    private static void promise6InputSixty() {
        LoanTerms x = new LoanTerms();
        for (int n = 1; n <= 60; n++) due("row " + n, x.input(2, n * 10, n), n);
        refuse("it has 60", STATE, x, o -> o.input(2, 700, 1));
        refuse("it has 60, and the hour is wrong", STATE, x, o -> o.input(2, -1, 1));
        refuse("it has 60, and the value is wrong", STATE, x, o -> o.input(2, 700, -1));
        due("another input has room", x.input(3, 5, 1), 1);
        due("61 rows", x.count(4), 61);
        read(x, "c=60;c=59;c=1");
        x.loan(0, 0, 0, 100);
        due("row 60 is the last", x.ask(0, 600), 2);
        due("row 59 is ahead of it", x.ask(0, 599), 1);
        due("row 1", x.ask(0, 10), 1);
        due("no row yet", x.ask(0, 9), 0);
        due("open at 9", x.open(0, 9, 2), 2);
    }

    private static void promise7Fails() {
        LoanTerms x = new LoanTerms();
        for (int n : new int[] {-1, 8, LOW, HIGH}) {
            refuse("fails of " + n, INDEX, x, o -> { o.fails(n, 0, 0); return 0; });
            refuse("fails of " + n + " with wrong hours", INDEX, x, o -> { o.fails(n, 5, -1); return 0; });
        }
        read(x, "a=1");
        x.loan(0, 0, 0, 100000);
        x.input(0, 0, 1);
        int[][] bad = {{-1, 5}, {0, -1}, {5, 4}, {0, 2400001}, {2400001, 2400001}, {LOW, 0}, {0, HIGH}};
        for (int[] b : bad) refuse("fails(0, " + b[0] + ", " + b[1] + ")", ARGUMENT, x, o -> { o.fails(0, b[0], b[1]); return 0; });
        due("nothing fails yet", x.open(0, 0, 0), -1);
        x.fails(0, 10, 20);
        int[][] seen = {{9, -1}, {10, 0}, {20, 0}, {21, -1}};
        for (int[] s : seen) due("open at " + s[0], x.open(0, s[0], 0), s[1]);
        refuse("to below from", ARGUMENT, x, o -> { o.fails(0, 40, 39); return 0; });
        due("the former hours stay", x.open(0, 15, 0), 0);
        x.fails(0, 30, 30);
        due("told anew: the former hours are gone", x.open(0, 15, 0), -1);
        due("one hour", x.open(0, 30, 0), 0);
        due("one hour only", x.open(0, 31, 0), -1);
        x.fails(1, 0, 2400000);
        due("another input fails", x.open(0, 15, 0), -1);
        x.fails(0, 0, 2400000);
        due("all hours, first", x.open(0, 0, 0), 0);
        due("all hours, last", x.open(0, 2400000, 0), 0);
        x.input(0, 40, 1);
        due("a new row does not end it", x.open(0, 40, 0), 0);
    }

    private static void promise8Loan() {
        LoanTerms x = new LoanTerms();
        refuse("no contract", INDEX, x, o -> o.loan(0, 0, 0, 0));
        read(x, "a<1");
        for (int n : new int[] {-1, 1, 8, LOW, HIGH}) refuse("contract " + n, INDEX, x, o -> o.loan(n, 0, 0, 0));
        for (int n : new int[] {-1, 16, LOW, HIGH}) {
            refuse("thing " + n, INDEX, x, o -> o.loan(0, n, 0, 0));
            refuse("thing " + n + " and days", INDEX, x, o -> o.loan(0, n, 1, 0));
        }
        int[][] bad = {{-1, 5}, {-2, -1}, {5, 4}, {0, 100001}, {100001, 100001}, {LOW, 0}, {0, HIGH}};
        for (int[] b : bad) refuse("loan days " + b[0] + ", " + b[1], ARGUMENT, x, o -> o.loan(0, 0, b[0], b[1]));
        due("no loan came of these", x.count(2), 0);
        due("a loan", x.loan(0, 5, 10, 20), 0);
        int[][] clashing = {{20, 20}, {10, 10}, {0, 10}, {20, 30}, {12, 15}, {0, 100000}, {10, 20}};
        for (int[] c : clashing) due("clash of " + c[0] + " to " + c[1], x.loan(0, 5, c[0], c[1]), -1);
        refuse("a clash and wrong days", ARGUMENT, x, o -> o.loan(0, 5, 15, 14));
        due("no loan came of a clash", x.count(2), 1);
        due("just behind", x.loan(0, 5, 21, 21), 1);
        due("just ahead", x.loan(0, 5, 9, 9), 2);
        due("another thing", x.loan(0, 15, 10, 20), 3);
        due("the widest days", x.loan(0, 0, 0, 100000), 4);
        due("the last loan clashes too", x.loan(0, 0, 100000, 100000), -1);
        due("a request is no loan", x.request(1, 3, 4), 0);
        due("so it does not clash with one", x.loan(0, 1, 3, 4), 5);
    }

    private static void promise8LoanTwenty() {
        LoanTerms x = new LoanTerms();
        read(x, "a<1");
        for (int n = 0; n < 20; n++) due("loan " + n, x.loan(0, 3, n, n), n);
        refuse("there are 20", STATE, x, o -> o.loan(0, 3, 50, 50));
        refuse("there are 20, and it clashes", STATE, x, o -> o.loan(0, 3, 5, 5));
        refuse("there are 20, and days", STATE, x, o -> o.loan(0, 3, 5, 4));
        refuse("there are 20, and the thing", INDEX, x, o -> o.loan(0, 16, 5, 4));
        refuse("there are 20, and the contract", INDEX, x, o -> o.loan(1, 0, 5, 4));
        due("loan 19", x.days(19), 1);
        due("still 20", x.count(2), 20);
    }

    private static void promise9Shield() {
        LoanTerms x = twoLoans("z=1");
        due("not shielded at first", truth(x.shield(0, false)), 0);
        due("on", truth(x.shield(0, true)), 1);
        due("on again", truth(x.shield(0, true)), 0);
        due("z is 1", x.ask(0, 0), 0);
        due("z of the other loan is 0", x.ask(1, 0), 1);
        due("off", truth(x.shield(0, false)), 1);
        due("off again", truth(x.shield(0, false)), 0);
        due("z is 0", x.ask(0, 0), 1);
        for (int n : new int[] {-1, 2, 20, LOW, HIGH}) {
            refuse("shield of " + n, INDEX, x, o -> truth(o.shield(n, true)));
        }
    }

    private static void promise10Ask() {
        LoanTerms x = new LoanTerms();
        read(x, "y<2;y>0;y=1&z=0");
        x.loan(0, 0, 2, 4);
        for (int n : new int[] {-1, 1, 20, LOW, HIGH}) {
            refuse("ask of " + n, INDEX, x, o -> o.ask(n, 50));
            refuse("ask of " + n + " at a wrong hour", INDEX, x, o -> o.ask(n, -1));
        }
        for (int h : new int[] {-1, 2400001, LOW, HIGH}) refuse("hour " + h, ARGUMENT, x, o -> o.ask(0, h));
        due("the hour ahead", x.ask(0, 47), -1);
        due("the hour behind", x.ask(0, 120), -1);
        due("the first hour of all", x.ask(0, 0), -1);
        due("the last hour of all", x.ask(0, 2400000), -1);
        due("none of these is told", x.told(0, -1, 0), 0);
        due("first hour: y is 0", x.ask(0, 48), 2);
        due("terms 1 and 2", told(x, 0), "48.1 48.2 ");
        due("last hour of day 0", x.ask(0, 71), 2);
        due("these stand", told(x, 0), "48.1 48.2 ");
        due("y is 1", x.ask(0, 72), 0);
        due("y is 2", x.ask(0, 96), 1);
        due("term 2 was good, so it is told anew", told(x, 0), "48.1 48.2 96.0 96.2 ");
        due("last hour", x.ask(0, 119), 1);
        due("not again", x.told(0, -1, 0), 4);
    }

    private static void promise10AskOrder() {
        LoanTerms x = new LoanTerms();
        read(x, "a=1;b=1");
        x.loan(0, 0, 0, 100);
        x.loan(0, 1, 0, 100);
        x.input(0, 10, 0);
        x.input(0, 20, 1);
        x.input(0, 30, 0);
        due("broken", x.ask(0, 30), 1);
        due("an open one is not told", told(x, 0), "30.0 ");
        due("good at an hour ahead, but asked behind", x.ask(0, 20), 0);
        due("broken again", x.ask(0, 15), 1);
        due("told again", told(x, 0), "30.0 15.0 ");
        due("open()'s look at a good hour is not asked", x.open(0, 20, 0), 1);
        due("still broken", x.ask(0, 16), 1);
        due("not told again", x.told(0, -1, 0), 2);
        x.fails(0, 17, 17);
        due("open", x.ask(0, 17), 0);
        due("broken behind open", x.ask(0, 18), 1);
        due("open is not good", x.told(0, -1, 0), 2);
        due("the other loan has its own", x.ask(1, 18), 1);
        due("told there", told(x, 1), "18.0 ");
        due("good at an hour out of the loan", x.ask(0, 2424), -1);
    }

    private static void promise10AskHundred() {
        LoanTerms x = new LoanTerms();
        read(x, "z=1;z=1;z=1;z=1;z=1;z=1");
        x.loan(0, 0, 0, 10);
        for (int n = 0; n < 20; n++) {
            x.shield(0, false);
            due("all broken", x.ask(0, n), 1);
            due("at most 100 told", x.told(0, -1, 0), Math.min(100, 6 * n + 6));
            x.shield(0, true);
            due("all good", x.ask(0, n), 0);
        }
        due("the hour of the last", x.told(0, 99, 0), 16);
        due("the term of the last", x.told(0, 99, 1), 3);
        due("the fee", x.fee(0), 55 + 120 + 5000);
        due("the letter", x.letter(0, -1), "#0@0:0-10=5175".length() + 200);
        due("its last sign", x.letter(0, 213), '3');
    }

    private static void promise10AskLeftToRight() {
        // a is 5, b has no row; at hour 0: what stands behind a known answer is not looked at.
        String[] texts = {"a=5|b=1", "b=1|a=5", "a=4&b=1", "b=1&a=4", "a=5&b=1", "a=4|b=1", "!(a=5|b=1)", "!b=1", "!!b=1",
            "a=4&b=1|a=5", "(b=1&a=4)|a=5", "a=5&(a=4|a=5)&!a=4", "a=5|a=4&b=1", "!(a=4&b=1)&a=5", "a<5", "a<6", "a>5", "a>4",
            "a=4|a=5&b=1", "!!!a=4", "!a=4&!a=5", "y=0&z=0", "y=0&z=1|b=1", "a=005"};
        // 1 broken, 0 good, 2 open
        int[] due = {0, 2, 1, 2, 2, 2, 1, 2, 2, 0, 2, 0, 0, 0, 1, 0, 1, 0, 2, 0, 1, 0, 2, 0};
        for (int i = 0; i < texts.length; i++) {
            LoanTerms x = new LoanTerms();
            read(x, texts[i]);
            x.loan(0, 0, 0, 0);
            x.input(0, 0, 5);
            int state = x.ask(0, 0) == 1 ? 1 : x.open(0, 0, 0) == 0 ? 2 : 0;
            due("state of " + texts[i], state, due[i]);
        }
    }

    private static void promise11Open() {
        LoanTerms x = new LoanTerms();
        read(x, "a=1;z=1;b=1|y=0;y<0&c=1");
        x.loan(0, 0, 2, 3);
        for (int n : new int[] {-1, 1, 20, LOW, HIGH}) {
            refuse("open of " + n, INDEX, x, o -> o.open(n, 50, 0));
            refuse("open of " + n + " at a wrong hour", INDEX, x, o -> o.open(n, -1, 0));
        }
        for (int k : new int[] {-1, LOW}) {
            refuse("k is " + k, INDEX, x, o -> o.open(0, 50, k));
            refuse("k is " + k + " at a wrong hour", INDEX, x, o -> o.open(0, -1, k));
        }
        for (int h : new int[] {-1, 2400001, LOW, HIGH}) refuse("hour " + h, ARGUMENT, x, o -> o.open(0, h, 0));
        due("first", x.open(0, 48, 0), 0);
        due("second", x.open(0, 48, 1), 2);
        due("none further", x.open(0, 48, 2), -1);
        due("none far", x.open(0, 48, HIGH), -1);
        due("y is below 0 ahead of the loan", x.open(0, 0, 2), 3);
        due("behind the loan", x.open(0, 2400000, 1), 2);
        due("nothing is told", x.told(0, -1, 0), 0);
        x.input(1, 48, 0);
        due("b has a row", x.open(0, 48, 1), -1);
        due("b has no row yet", x.open(0, 47, 1), 2);
        due("a broken one is not open", x.ask(0, 72), 2);
    }

    private static void promise12Told() {
        LoanTerms x = twoLoans("z=1;y=1");
        due("none", x.told(0, -1, 0), 0);
        refuse("no first", INDEX, x, o -> o.told(0, 0, 0));
        x.ask(0, 7);
        x.shield(0, true);
        x.ask(0, 8);
        x.shield(0, false);
        x.ask(0, 9);
        due("all", told(x, 0), "7.0 7.1 9.0 ");
        due("how many, by 1", x.told(0, -1, 1), 3);
        due("of the other", told(x, 1), "");
        for (int k : new int[] {-2, 3, 100, LOW, HIGH}) refuse("place " + k, INDEX, x, o -> o.told(0, k, 0));
        for (int what : new int[] {-1, 2, LOW, HIGH}) {
            refuse("what " + what, INDEX, x, o -> o.told(0, 0, what));
            refuse("what " + what + " of -1", INDEX, x, o -> o.told(0, -1, what));
        }
        for (int n : new int[] {-1, 2, 20, LOW, HIGH}) refuse("told of " + n, INDEX, x, o -> o.told(n, -1, 0));
    }

    private static void promise13Extend() {
        LoanTerms x = new LoanTerms();
        read(x, "a<1");
        x.loan(0, 3, 10, 20);
        x.loan(0, 3, 30, 40);
        x.loan(0, 4, 21, 22);
        for (int n : new int[] {-1, 3, 20, LOW, HIGH}) {
            refuse("extend of " + n, INDEX, x, o -> o.extend(n, 25, 15));
            refuse("extend of " + n + " and days", INDEX, x, o -> o.extend(n, -1, -1));
        }
        int[][] bad = {{-1, 15}, {100001, 15}, {25, -1}, {25, 100001}, {LOW, 0}, {HIGH, 0}, {25, LOW}, {25, HIGH}};
        for (int[] b : bad) refuse("extend days " + b[0] + ", " + b[1], ARGUMENT, x, o -> o.extend(0, b[0], b[1]));
        due("told behind the end", x.extend(0, 25, 21), 1);
        due("told behind the end, and not above", x.extend(0, 20, 21), 1);
        due("told behind the end, and a clash", x.extend(0, 35, 21), 1);
        due("not above its end", x.extend(0, 20, 20), 2);
        due("below its end", x.extend(0, 0, 20), 2);
        due("a clash", x.extend(0, 30, 20), 3);
        due("a clash over all", x.extend(0, 100000, 0), 3);
        due("nothing has changed", x.days(0), 11);
        due("up to the day ahead", x.extend(0, 29, 20), 0);
        due("longer", x.days(0), 20);
        due("told on a day ahead of the loan", x.extend(1, 41, 0), 0);
        due("the last day", x.extend(1, 100000, 41), 0);
        due("its days", x.days(1), 99971);
        due("no further", x.extend(1, 100000, 41), 2);
        due("its new days are asked", x.ask(1, 2400000), 0);
        due("its new days clash", x.loan(0, 3, 50, 50), -1);
        due("a request", x.request(4, 23, 24), 0);
        due("requests do not hinder", x.extend(2, 24, 22), 0);
        due("but clash then", x.clash(0, 1), 102);
    }

    private static void promise14Request() {
        LoanTerms x = new LoanTerms();
        for (int n : new int[] {-1, 16, LOW, HIGH}) {
            refuse("thing " + n, INDEX, x, o -> o.request(n, 0, 0));
            refuse("thing " + n + " and days", INDEX, x, o -> o.request(n, 1, 0));
        }
        int[][] bad = {{-1, 5}, {-2, -1}, {5, 4}, {0, 100001}, {100001, 100001}, {LOW, 0}, {0, HIGH}};
        for (int[] b : bad) refuse("request days " + b[0] + ", " + b[1], ARGUMENT, x, o -> o.request(0, b[0], b[1]));
        due("no request came of these", x.count(3), 0);
        due("all days of a thing", x.request(15, 0, 100000), 0);
        for (int n = 1; n < 30; n++) due("request " + n + ", clashing or not", x.request(15, n, n), n);
        refuse("there are 30", STATE, x, o -> o.request(0, 0, 0));
        refuse("there are 30, and days", STATE, x, o -> o.request(0, 1, 0));
        refuse("there are 30, and the thing", INDEX, x, o -> o.request(16, 1, 0));
        due("still 30", x.count(3), 30);
        due("the last clashes with the first", x.clash(28, 1), 29);
        due("none further", x.clash(29, 1), -1);
    }

    private static void promise15Clash() {
        LoanTerms x = new LoanTerms();
        read(x, "a<1");
        x.loan(0, 1, 0, 9);
        x.loan(0, 2, 0, 9);
        x.loan(0, 1, 12, 15);
        x.request(1, 9, 12);
        x.request(2, 10, 11);
        x.request(1, 16, 20);
        x.request(2, 11, 11);
        x.request(2, 5, 10);
        x.request(1, 10, 11);
        due("all pairs", clashes(x), "0-5 0-100 0-102 1-3 1-4 4-101 ");
        x.extend(2, 16, 15);
        due("an extended loan", clashes(x), "0-5 0-100 0-102 1-3 1-4 2-102 4-101 ");
        due("not so many", x.clash(7, 0), -1);
        due("not nearly so many", x.clash(HIGH, 1), -1);
        for (int k : new int[] {-1, LOW}) refuse("clash " + k, INDEX, x, o -> o.clash(k, 0));
        for (int which : new int[] {-1, 2, LOW, HIGH}) {
            refuse("which " + which, INDEX, x, o -> o.clash(0, which));
            refuse("which " + which + " of none", INDEX, x, o -> o.clash(99, which));
        }
    }

    private static void promise16Days() {
        LoanTerms x = new LoanTerms();
        read(x, "a<1");
        x.loan(0, 0, 7, 7);
        x.loan(0, 1, 0, 100000);
        x.loan(0, 2, 3, 9);
        due("one day", x.days(0), 1);
        due("all days", x.days(1), 100001);
        due("seven days", x.days(2), 7);
        for (int n : new int[] {-1, 3, 20, LOW, HIGH}) refuse("days of " + n, INDEX, x, o -> o.days(n));
    }

    private static void promise17Fee() {
        LoanTerms x = new LoanTerms();
        read(x, "a<1");
        read(x, "y>5;y>6;z=1");
        x.loan(0, 0, 7, 7);
        x.loan(1, 1, 0, 100000);
        due("a day, a term, no shield", x.fee(0), 325);
        due("all days, three terms", x.fee(1), 500005 + 60 + 300);
        x.ask(1, 0);
        due("three told", x.fee(1), 500005 + 60 + 300 + 150);
        x.shield(1, true);
        due("shielded", x.fee(1), 500005 + 60 + 150);
        x.shield(1, false);
        due("not shielded", x.fee(1), 500005 + 60 + 300 + 150);
        x.extend(0, 9, 7);
        due("longer", x.fee(0), 335);
        for (int n : new int[] {-1, 2, 20, LOW, HIGH}) refuse("fee of " + n, INDEX, x, o -> o.fee(n));
    }

    private static void promise18Letter() {
        LoanTerms x = new LoanTerms();
        read(x, "a<1;y<1;a>1;z=1");
        x.loan(0, 0, 0, 0);
        for (int n = 1; n < 12; n++) x.loan(0, 15, n * 100, n * 100 + 9);
        due("a plain letter", letter(x, 0), "#0@0:0-0=385");
        x.ask(0, 0);
        due("one told", letter(x, 0), "#0@0:0-0=435!3");
        x.ask(11, 1101 * 24);
        due("two told", letter(x, 11), "#11@15:1100-1109=530!1!3");
        x.extend(11, 100000, 1100);
        x.shield(11, true);
        due("the last day", letter(x, 11), "#11@15:1100-100000=494685!1!3");
        due("a letter again", letter(x, 0), "#0@0:0-0=435!3");
        for (int i : new int[] {-2, 14, 29, LOW, HIGH}) refuse("letter(0, " + i + ")", INDEX, x, o -> o.letter(0, i));
        for (int n : new int[] {-1, 12, 20, LOW, HIGH}) refuse("letter of " + n, INDEX, x, o -> o.letter(n, -1));
    }

    private static void promise19Count() {
        LoanTerms x = new LoanTerms();
        read(x, "a<1");
        read(x, "a<2");
        put(x, "a<!!!");
        for (int n = 0; n < 3; n++) x.loan(0, n, 0, 0);
        for (int n = 0; n < 4; n++) x.request(n, 0, 0);
        for (int n = 0; n < 8; n++) x.input(n, 5, 0);
        x.input(0, 6, 0);
        int[] due = {5, 2, 3, 4, 9};
        for (int what = 0; what < due.length; what++) due("count(" + what + ")", x.count(what), due[what]);
        for (int what : new int[] {-1, 5, LOW, HIGH}) refuse("count(" + what + ")", INDEX, x, o -> o.count(what));
    }

    private static LoanTerms twoLoans(String text) {
        LoanTerms x = having(text);
        x.loan(0, 0, 0, 9);
        x.loan(0, 1, 0, 9);
        return x;
    }
}
