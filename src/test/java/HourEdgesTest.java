/**
 * The edges of inputs, hours and what is told: promises 6, 7 and 10 to 12.
 * Above each method stand the words that it holds the class to, on both sides of their edge.
 */
public final class HourEdgesTest extends States {
    private static final int[] NO_HOURS = {-1, 2400001, LOW, HIGH};

    public static void main(String[] args) {
        inputsAre0To7();
        inputHours();
        inputHoursRise();
        inputValues();
        atMost60Rows();
        theLastRowThatIsNotAbove();
        failsHours();
        failsWithBothEnds();
        failsAnewInPlaceOfTheFormer();
        partsTillOneIsTrue();
        bitsTillOneIsFalse();
        notTurnsABitRound();
        comparedOnBothSides();
        theDaysNumberBehindTheFirst();
        oneIfShielded();
        askHours();
        onNoDayOfTheLoan();
        onePlusTheFirstBroken();
        notToldAgainUntilGood();
        atMost100Told();
        openHoursAndPlaces();
        openTellsNothing();
        toldPlaces();
        endWithCount();
    }

    // "INPUTS are "a" .. "h"", "an input (0 .. 7)"
    private static void inputsAre0To7() {
        for (int n = 0; n <= 7; n++) {
            LoanTerms x = having("a=5|b=5|c=5|d=5|e=5|f=5|g=5|h=5".substring(4 * n, 4 * n + 3));
            x.loan(0, 0, 0, 0);
            due("a row of input " + n, x.input(n, 0, 5), 1);
            due("its letter is not open", x.open(0, 0, 0), -1);
            due("and has its value", x.ask(0, 0), 0);
            x.fails(n, 0, 0);
            due("its letter fails", x.open(0, 0, 0), 0);
        }
        for (int n : new int[] {-1, 8, LOW, HIGH}) {
            refuse("input " + n, INDEX, States::busy, o -> o.input(n, 100, 1));
            refuse("input " + n + ", hour", INDEX, States::busy, o -> o.input(n, -1, 1));
            refuse("input " + n + ", value", INDEX, States::busy, o -> o.input(n, 100, -1));
            refuse("input " + n + " beside a full one", INDEX, States::fullInput, o -> o.input(n, -1, -1));
            refuse("fails of " + n, INDEX, States::busy, o -> failing(o, n, 0, 0));
            refuse("fails of " + n + ", hours", INDEX, States::busy, o -> failing(o, n, 5, 4));
        }
    }

    // "HOURS are 0 .. 2400000"; "IllegalArgumentException: hour"
    private static void inputHours() {
        due("hour 0", new LoanTerms().input(0, 0, 1), 1);
        due("hour 2400000", new LoanTerms().input(0, 2400000, 1), 1);
        for (int hour : NO_HOURS) {
            refuse("first row at " + hour, ARGUMENT, LoanTerms::new, o -> o.input(0, hour, 1));
            refuse("third row at " + hour, ARGUMENT, States::busy, o -> o.input(0, hour, 1));
        }
    }

    // "(also, if it is not above the last one)"
    private static void inputHoursRise() {
        due("the next hour", busy().input(0, 61, 9), 3);
        refuse("the same hour", ARGUMENT, States::busy, o -> o.input(0, 60, 9));
        refuse("the same hour and value", ARGUMENT, States::busy, o -> o.input(0, 60, 2));
        refuse("the hour ahead", ARGUMENT, States::busy, o -> o.input(0, 59, 9));
        refuse("ahead of all", ARGUMENT, States::busy, o -> o.input(0, 0, 9));
        due("an hour of another input", busy().input(1, 60, 9), 2);
        due("hour 0 of another input", busy().input(2, 0, 9), 1);
        LoanTerms x = new LoanTerms();
        due("the last hour but one", x.input(0, 2399999, 1), 1);
        due("the last hour", x.input(0, 2400000, 1), 2);
        refuse("the last hour again", ARGUMENT, x, o -> o.input(0, 2400000, 1));
        refuse("no hour is above", ARGUMENT, x, o -> o.input(0, 2400001, 1));
        due("hour 0, then hour 1", fed(0, 5).input(0, 1, 6), 2);
        refuse("hour 0 twice", ARGUMENT, fed(0, 5), o -> o.input(0, 0, 6));
    }

    // "values 0 .. 999999"; "IllegalArgumentException: .. or v."
    private static void inputValues() {
        LoanTerms x = having("a=0", "a=999999");
        x.loan(0, 0, 0, 0);
        x.loan(1, 1, 0, 0);
        due("value 0", x.input(0, 0, 0), 1);
        due("is 0", x.ask(0, 0), 0);
        due("value 999999", x.input(0, 1, 999999), 2);
        due("is 999999", x.ask(1, 1), 0);
        for (int v : new int[] {-1, 1000000, LOW, HIGH}) {
            refuse("first value " + v, ARGUMENT, LoanTerms::new, o -> o.input(0, 0, v));
            refuse("third value " + v, ARGUMENT, States::busy, o -> o.input(0, 61, v));
            refuse("value " + v + " and hour", ARGUMENT, States::busy, o -> o.input(0, -1, v));
        }
    }

    // "rows of at most 60 hours"; "IllegalStateException: it has 60."
    private static void atMost60Rows() {
        LoanTerms x = new LoanTerms();
        for (int n = 1; n <= 60; n++) due("row " + n, x.input(7, n, n), n);
        refuse("row 61", STATE, x, o -> o.input(7, 61, 61));
        due("another input has room", x.input(6, 0, 0), 1);
        refuse("row 61", STATE, States::fullInput, o -> o.input(0, 200, 1));
        refuse("row 61, hour", STATE, States::fullInput, o -> o.input(0, -1, 1));
        refuse("row 61, the same hour", STATE, States::fullInput, o -> o.input(0, 120, 1));
        refuse("row 61, value", STATE, States::fullInput, o -> o.input(0, 200, 1000000));
        due("row 60 has its value", fullInput().ask(0, 120), 0);
        due("row 59 has another one", fullInput().ask(0, 119), 1);
        due("row 60 holds till the last hour", fullInput().ask(0, 2400000), 0);
    }

    // "at an hour it has the value of the last row that is not above it"; "or has no row yet"
    private static void theLastRowThatIsNotAbove() {
        // A sign for each of the hours 8 to 22: o open, the value else.
        String seen = "";
        for (int hour = 8; hour <= 22; hour++) seen += valueSeen(hour);
        due("rows at 10, 11 and 20", seen, "oo1222222222333");
        due("hour 0", valueSeen(0), "o");
        due("the last hour", valueSeen(2400000), "3");
        due("a row at hour 0 is not above hour 0", fed(0, 5).open(0, 0, 0), -1);
        due("a row at the last hour is not above it", fed(2400000, 5).open(0, 2400000, 0), -1);
        due("but above the hour ahead", fed(2400000, 5).open(0, 2399999, 0), 0);
    }

    private static String valueSeen(int hour) {
        for (int value = 1; value <= 3; value++) {
            LoanTerms x = having("a=" + value);
            x.loan(0, 0, 0, 100000);
            x.input(0, 10, 1);
            x.input(0, 11, 2);
            x.input(0, 20, 3);
            if (x.open(0, hour, 0) == 0) return "o";
            if (x.ask(0, hour) == 0) return "" + value;
        }
        return "?";
    }

    private static LoanTerms fed(int hour, int value) {
        LoanTerms x = having("a=" + value);
        x.loan(0, 0, 0, 100000);
        x.input(0, hour, value);
        return x;
    }

    private static long failing(LoanTerms x, int name, int from, int to) {
        x.fails(name, from, to);
        return 0;
    }

    // "IllegalArgumentException: hours, or to is below from."
    private static void failsHours() {
        int[][] right = {{0, 0}, {0, 2400000}, {2400000, 2400000}, {2399999, 2400000}, {7, 7}, {7, 8}};
        for (int[] r : right) {
            due("fails from " + r[0] + " to " + r[1], failing(busy(), 0, r[0], r[1]), 0);
        }
        int[][] bad = {{1, 0}, {8, 7}, {2400000, 0}, {2400000, 2399999}, {-1, -1}, {2400001, 2400001}, {HIGH, LOW}};
        for (int[] b : bad) {
            refuse("fails from " + b[0] + " to " + b[1], ARGUMENT, States::busy, o -> failing(o, 1, b[0], b[1]));
        }
        for (int hour : NO_HOURS) {
            refuse("fails from " + hour, ARGUMENT, States::busy, o -> failing(o, 1, hour, 80));
            refuse("fails to " + hour, ARGUMENT, States::busy, o -> failing(o, 1, 80, hour));
        }
    }

    // "FAIL from an hour to another one (both with it ..)"
    private static void failsWithBothEnds() {
        LoanTerms x = fed(0, 5);
        x.fails(0, 10, 12);
        int[] hours = {0, 9, 10, 11, 12, 13, 2400000};
        int[] due = {-1, -1, 0, 0, 0, -1, -1};
        for (int i = 0; i < hours.length; i++) due("fails 10 to 12, at " + hours[i], x.open(0, hours[i], 0), due[i]);
        x.fails(0, 0, 0);
        due("fails at hour 0 alone", x.open(0, 0, 0), 0);
        due("not at hour 1", x.open(0, 1, 0), -1);
        x.fails(0, 2400000, 2400000);
        due("fails at the last hour alone", x.open(0, 2400000, 0), 0);
        due("not ahead of it", x.open(0, 2399999, 0), -1);
    }

    // "told anew in place of the former ones"
    private static void failsAnewInPlaceOfTheFormer() {
        LoanTerms x = fed(0, 5);
        x.fails(0, 10, 20);
        x.fails(0, 30, 40);
        due("the former hours", x.open(0, 15, 0), -1);
        due("the new ones", x.open(0, 35, 0), 0);
        x.fails(0, 15, 35);
        due("the new ones, which lie over these", x.open(0, 20, 0), 0);
        due("the former hours behind them", x.open(0, 36, 0), -1);
        x.fails(1, 0, 2400000);
        due("another input's hours stay apart", x.open(0, 40, 0), -1);
        due("and these stay", x.open(0, 35, 0), 0);
        due("a row is taken while it fails", x.input(0, 20, 7), 2);
        due("and it fails still", x.open(0, 20, 0), 0);
        due("the row holds when it does not", x.ask(0, 36), 1);
    }

    // "parts till one of them is true"; "If a name is looked at that fails, or has no row yet, the term is OPEN"
    private static void partsTillOneIsTrue() {
        seen("a=5|b=1", "good");
        seen("b=1|a=5", "open");
        seen("a=4|b=1", "open");
        seen("a=4|a=5|b=1", "good");
        seen("a=4|b=1|a=5", "open");
        seen("a=4|a=3|a=5", "good");
        seen("a=4|a=3|a=2", "broken");
        seen("(a=5|b=1)&a=5", "good");
        seen("(a=4|b=1)|a=5", "open");
        seen("c=1|a=5", "open");
        seen("a=5|c=1", "good");
    }

    // "of a part bits till one of them is false"
    private static void bitsTillOneIsFalse() {
        seen("a=4&b=1", "broken");
        seen("b=1&a=4", "open");
        seen("a=5&b=1", "open");
        seen("a=5&a=4&b=1", "broken");
        seen("a=5&b=1&a=4", "open");
        seen("a=5&a>4&a<6", "good");
        seen("a=5&a>4&a<5", "broken");
        seen("a=4&b=1|a=5", "good");
        seen("a=5&b=1|a=5", "open");
        seen("a=5&a=5|b=1", "good");
        seen("(a=4&b=1)|a=4", "broken");
        seen("(b=1&a=4)|a=5", "open");
        seen("c=1&a=4", "open");
        seen("a=4&c=1", "broken");
    }

    // ""!" turns a bit round"
    private static void notTurnsABitRound() {
        seen("!a=5", "broken");
        seen("!a=4", "good");
        seen("!!a=5", "good");
        seen("!!!a=5", "broken");
        seen("!b=1", "open");
        seen("!c=1", "open");
        seen("!!!b=1", "open");
        seen("!(a=5|b=1)", "broken");
        seen("!(a=4&b=1)", "good");
        seen("!(a=4|b=1)|a=5", "open");
        seen("!a=5|a=5", "good");
        seen("!a=4&a=4", "broken");
        seen("!a=5&b=1", "broken");
        seen("!a=4|b=1", "good");
        seen("!(!(!(!a=5)))", "good");
    }

    // a name, "one of "<", "=", ">", and a number"
    private static void comparedOnBothSides() {
        String[] right = {"a<6", "a<999999", "a=5", "a=000005", "a>4", "a>0", "y=0", "y<1", "z=0", "z<1"};
        String[] bad = {"a<5", "a<4", "a<0", "a=4", "a=6", "a=50", "a>5", "a>6", "a>999999", "y>0", "y<0", "y=1",
            "z>0", "z=1", "z<0"};
        for (String text : right) seen(text, "good");
        for (String text : bad) seen(text, "broken");
    }

    /** At hour 0 of a loan, where a is 5, b has no row and c fails. */
    private static void seen(String text, String state) {
        LoanTerms x = having(text);
        x.loan(0, 0, 0, 0);
        x.input(0, 0, 5);
        x.input(2, 0, 1);
        x.fails(2, 0, 0);
        String open = x.open(0, 0, 0) == 0 ? "open" : "good";
        String got = x.ask(0, 0) == 1 ? "broken" : open;
        due("state of " + text, got, state);
        due("told of " + text, x.told(0, -1, 0), state.equals("broken") ? 1 : 0);
        due("not open: " + text, x.open(0, 0, 0), state.equals("open") ? 0 : -1);
    }

    // ""y" is the day's number behind the loan's first day"
    private static void theDaysNumberBehindTheFirst() {
        LoanTerms x = having("y=0", "y=1", "y=100000", "y<1&b=1");
        x.loan(0, 0, 7, 9);
        x.loan(1, 1, 7, 9);
        x.loan(2, 2, 0, 100000);
        x.loan(3, 3, 7, 9);
        due("first hour of the first day", x.ask(0, 168), 0);
        due("last hour of the first day", x.ask(0, 191), 0);
        due("first hour of the next day", x.ask(0, 192), 1);
        due("the next day is 1", x.ask(1, 192), 0);
        due("to its last hour", x.ask(1, 215), 0);
        due("not behind it", x.ask(1, 216), 1);
        due("the last day of all", x.ask(2, 2400000), 0);
        due("not the hour ahead", x.ask(2, 2399999), 1);
        due("ahead of the first day", x.open(3, 0, 0), 0);
        due("on it", x.open(3, 191, 0), 0);
        due("behind it", x.open(3, 192, 0), -1);
        x.extend(1, 20, 9);
        due("an extended loan has the same first day", x.ask(1, 192), 0);
    }

    // ""z" 1 if the loan is SHIELDED, else 0"
    private static void oneIfShielded() {
        LoanTerms x = having("z=0", "z=1");
        x.loan(0, 0, 0, 9);
        x.loan(1, 1, 0, 9);
        due("z is 0", x.ask(0, 0), 0);
        due("z is not 1", x.ask(1, 0), 1);
        x.shield(1, true);
        due("z is 1", x.ask(1, 0), 0);
        due("z of the other one is 0", x.ask(0, 0), 0);
        x.shield(1, false);
        due("z is 0 again", x.ask(1, 0), 1);
    }

    // "IllegalArgumentException: hour."
    private static void askHours() {
        LoanTerms x = having("a<1");
        x.loan(0, 0, 0, 100000);
        due("hour 0", x.ask(0, 0), 0);
        due("hour 2400000", x.ask(0, 2400000), 0);
        for (int hour : NO_HOURS) refuse("ask at " + hour, ARGUMENT, States::busy, o -> o.ask(0, hour));
        for (int hour : NO_HOURS) refuse("ask at " + hour, ARGUMENT, States::fullTold, o -> o.ask(0, hour));
    }

    // "NONE if the hour is on no day of the loan"
    private static void onNoDayOfTheLoan() {
        for (int hour : new int[] {0, 47, 144, 2400000}) {
            keeps("hour " + hour, -1, States::busy, o -> o.ask(0, hour));
        }
        due("its first hour", busy().ask(0, 48), 0);
        due("its last hour", busy().ask(0, 143), 1);
        LoanTerms x = having("y<0");
        x.loan(0, 0, 100000, 100000);
        due("ahead of the last day of all", x.ask(0, 2399999), -1);
        due("on it", x.ask(0, 2400000), 1);
        LoanTerms y = having("z=1");
        y.loan(0, 0, 1, 1);
        due("broken", y.ask(0, 24), 1);
        y.shield(0, true);
        due("on no day of the loan", y.ask(0, 23), -1);
        due("nor behind it", y.ask(0, 48), -1);
        y.shield(0, false);
        due("broken again", y.ask(0, 25), 1);
        due("was not held against the hours between", told(y, 0), "24.0 ");
    }

    // "0, or 1 plus the first broken one"; "Each broken one is TOLD (the hour and the term ..)"
    private static void onePlusTheFirstBroken() {
        for (int first = 0; first <= 6; first++) {
            StringBuilder text = new StringBuilder();
            StringBuilder told = new StringBuilder();
            for (int term = 0; term < 6; term++) {
                text.append(term == 0 ? "" : ";").append(term < first ? "z=0" : "z=1");
                told.append(term < first ? "" : "30." + term + " ");
            }
            LoanTerms x = having(text.toString());
            x.loan(0, 0, 1, 1);
            due("first broken of " + text, x.ask(0, 30), first == 6 ? 0 : 1 + first);
            due("told of " + text, told(x, 0), told.toString());
        }
        LoanTerms x = having("a=1;z=1;b=1;z=1;z=0");
        x.loan(0, 0, 0, 0);
        due("open ones are not broken", x.ask(0, 7), 2);
        due("nor told", told(x, 0), "7.1 7.3 ");
    }

    // "one that was told is not told again until it was good at an hour that was asked for behind that"
    private static void notToldAgainUntilGood() {
        LoanTerms x = having("a=1;a<3", "a=1");
        x.loan(0, 0, 0, 9);
        x.loan(1, 1, 0, 9);
        int[] values = {2, 2, 1, 2, 3, 1, 3};
        for (int i = 0; i < values.length; i++) x.input(0, 10 * i, values[i]);
        due("broken", x.ask(0, 0), 1);
        due("told", told(x, 0), "0.0 ");
        due("broken still", x.ask(0, 10), 1);
        due("at the same hour too", x.ask(0, 10), 1);
        due("not told again", told(x, 0), "0.0 ");
        due("good at an hour that is not asked for", x.open(0, 20, 0), -1);
        due("broken", x.ask(0, 30), 1);
        due("still not told again", told(x, 0), "0.0 ");
        due("good at an hour that is asked for of another loan", x.ask(1, 20), 0);
        due("broken", x.ask(0, 40), 1);
        due("only the other term is told", told(x, 0), "0.0 40.1 ");
        x.fails(0, 41, 41);
        due("open", x.ask(0, 41), 0);
        due("broken", x.ask(0, 42), 1);
        due("open is not good", told(x, 0), "0.0 40.1 ");
        due("good", x.ask(0, 50), 0);
        due("broken", x.ask(0, 60), 1);
        due("both are told again", told(x, 0), "0.0 40.1 60.0 60.1 ");
        due("the other loan has none", x.told(1, -1, 0), 0);
    }

    // "at most 100 of a loan"
    private static void atMost100Told() {
        LoanTerms x = having("z=1;z=1;z=1;z=1;z=1;z=1");
        x.loan(0, 0, 0, 9);
        x.loan(0, 1, 0, 9);
        for (int hour = 0; hour < 16; hour++) tellAndMend(x, hour);
        due("96 were told", x.told(0, -1, 0), 96);
        due("six more are broken", x.ask(0, 16), 1);
        due("100 were told", x.told(0, -1, 0), 100);
        due("the hour of the last", x.told(0, 99, 0), 16);
        due("the term of the last", x.told(0, 99, 1), 3);
        refuse("no place 100", INDEX, x, o -> o.told(0, 100, 0));
        due("all are broken still", x.ask(0, 17), 1);
        x.shield(0, true);
        due("all are good", x.ask(0, 18), 0);
        x.shield(0, false);
        due("the answer is the same behind 100", x.ask(0, 19), 1);
        due("still 100", x.told(0, -1, 0), 100);
        due("the first stays", x.told(0, 0, 0), 0);
        due("the last stays", x.told(0, 99, 0), 16);
        due("another loan has its own", x.ask(1, 20), 1);
        due("told there", x.told(1, -1, 0), 6);
        due("50 for each of the 100", x.fee(0), 50 + 120 + 300 + 5000);
    }

    // "IndexOutOfBoundsException: loan, or k is below 0. IllegalArgumentException: hour."
    private static void openHoursAndPlaces() {
        LoanTerms x = having("a<1;z=1;b<1;z=0;c<1;d<1");
        x.loan(0, 0, 5, 5);
        int[] open = {0, 2, 4, 5};
        for (int hour : new int[] {0, 119, 120, 143, 144, 2400000}) {
            for (int k = 0; k < 4; k++) due("open " + k + " at " + hour, x.open(0, hour, k), open[k]);
            due("no fifth one at " + hour, x.open(0, hour, 4), -1);
        }
        due("far behind the last", x.open(0, 0, HIGH), -1);
        due("all six", having6Open().open(0, 0, 5), 5);
        due("no seventh", having6Open().open(0, 0, 6), -1);
        for (int k : new int[] {-1, -2, LOW}) {
            refuse("open place " + k, INDEX, States::busy, o -> o.open(0, 60, k));
            refuse("open place " + k + ", hour", INDEX, States::busy, o -> o.open(0, -1, k));
        }
        for (int hour : NO_HOURS) {
            refuse("open at " + hour, ARGUMENT, States::busy, o -> o.open(0, hour, 0));
            refuse("open at " + hour + ", far place", ARGUMENT, States::busy, o -> o.open(0, hour, HIGH));
        }
    }

    private static LoanTerms having6Open() {
        LoanTerms x = having("a<1;b<1;c<1;d<1;e<1;f<1");
        x.loan(0, 0, 0, 0);
        return x;
    }

    // "(whether the loan is out then or not); NONE. Nothing is told."
    private static void openTellsNothing() {
        for (int hour : new int[] {41, 48, 61, 119, 144}) {
            keeps("at " + hour + " none is open for a seventh time", -1, States::busy, o -> o.open(0, hour, 6));
        }
        keeps("b has no row yet", 1, States::busy, o -> o.open(0, 49, 0));
        keeps("b fails", 1, States::busy, o -> o.open(0, 90, 0));
        keeps("ahead of the loan, a has no row yet", 0, States::busy, o -> o.open(0, 39, 0));
        keeps("behind the loan, c has no row yet", 2, States::busy, o -> o.open(0, 144, 0));
        LoanTerms x = having("z=1");
        x.loan(0, 0, 0, 0);
        due("a broken one is not open", x.open(0, 0, 0), -1);
        due("and is not told", x.told(0, -1, 0), 0);
        due("until it is asked", x.ask(0, 0), 1);
        due("then it is", x.told(0, -1, 0), 1);
    }

    // "IndexOutOfBoundsException: loan, place, or what is neither (also for k = -1)."
    private static void toldPlaces() {
        due("how many", busy().told(0, -1, 0), 1);
        due("how many, by the other what", busy().told(0, -1, 1), 1);
        due("the hour", busy().told(0, 0, 0), 60);
        due("the term", busy().told(0, 0, 1), 0);
        for (int k : new int[] {-2, 1, 99, 100, LOW, HIGH}) {
            refuse("told place " + k, INDEX, States::busy, o -> o.told(0, k, 0));
            refuse("told place " + k + ", term", INDEX, States::busy, o -> o.told(0, k, 1));
        }
        refuse("first place of none", INDEX, States::busy, o -> o.told(1, 0, 0));
        due("none", busy().told(1, -1, 0), 0);
        for (int what : new int[] {-1, 2, LOW, HIGH}) {
            refuse("told what " + what, INDEX, States::busy, o -> o.told(0, 0, what));
            refuse("told how many, what " + what, INDEX, States::busy, o -> o.told(0, -1, what));
        }
        due("place 99", fullTold().told(0, 99, 1), 3);
        refuse("place 100", INDEX, States::fullTold, o -> o.told(0, 100, 0));
    }
}
