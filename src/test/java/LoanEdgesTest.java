import java.util.function.Supplier;

/**
 * The edges of loans, requests, fees and letters: promises 8, 9 and 13 to 19.
 * Above each method stand the words that it holds the class to, on both sides of their edge.
 */
public final class LoanEdgesTest extends States {
    private static final int[] NO_DAYS = {-1, 100001, LOW, HIGH};
    private static final int[] NO_THINGS = {-1, 16, LOW, HIGH};

    public static void main(String[] args) {
        thingsAre0To15();
        loanDays();
        loansAre0To19();
        noLoanThatClashes();
        loanNumbers();
        shieldedOrNot();
        extendDays();
        extendAnswers();
        requestsAre0To29();
        requestDays();
        clashesOfBothKinds();
        clashPlaces();
        clashOfFullRows();
        daysWithBothEnds();
        feeOfEach();
        letterPlaces();
        letterNumbers();
        countOfEach();
        countOfFull();
        endWithCount();
    }

    // "THINGS are 0 .. 15"
    private static void thingsAre0To15() {
        LoanTerms x = having("a<1");
        for (int thing = 0; thing <= 15; thing++) {
            due("a loan of thing " + thing, x.loan(0, thing, 0, 9), thing);
            due("a request of thing " + thing, x.request(thing, 0, 9), thing);
            due("clashes with its loan", x.clash(thing, 1), 100 + thing);
        }
        due("and with no other one", x.clash(16, 0), -1);
        for (int thing : NO_THINGS) {
            refuse("loan of " + thing, INDEX, States::busy, o -> o.loan(0, thing, 0, 0));
            refuse("loan of " + thing + ", days", INDEX, States::busy, o -> o.loan(0, thing, 1, 0));
            refuse("loan 21 of " + thing, INDEX, States::fullLoans, o -> o.loan(0, thing, 300, 300));
            refuse("loan 21 of " + thing + ", days", INDEX, States::fullLoans, o -> o.loan(0, thing, 1, 0));
            refuse("request of " + thing, INDEX, States::busy, o -> o.request(thing, 0, 0));
            refuse("request of " + thing + ", days", INDEX, States::busy, o -> o.request(thing, 1, 0));
            refuse("request 31 of " + thing, INDEX, States::fullRequests, o -> o.request(thing, 0, 0));
            refuse("request 31 of " + thing + ", days", INDEX, States::fullRequests, o -> o.request(thing, 1, 0));
        }
    }

    // "DAYS .. 0 .. 100000"; "IllegalArgumentException: days, or to is below from."
    private static void loanDays() {
        int[][] right = {{0, 0}, {0, 100000}, {100000, 100000}, {99999, 100000}, {7, 7}, {7, 8}};
        for (int[] r : right) {
            LoanTerms x = busy();
            due("loan from " + r[0] + " to " + r[1], x.loan(0, 9, r[0], r[1]), 2);
            due("has its days", x.days(2), r[1] - r[0] + 1);
        }
        int[][] bad = {{1, 0}, {8, 7}, {100000, 99999}, {100000, 0}, {-1, -1}, {100001, 100001}, {HIGH, LOW}};
        for (int[] b : bad) {
            refuse("loan from " + b[0] + " to " + b[1], ARGUMENT, States::busy, o -> o.loan(0, 9, b[0], b[1]));
        }
        for (int day : NO_DAYS) {
            refuse("loan from " + day, ARGUMENT, States::busy, o -> o.loan(0, 9, day, 50));
            refuse("loan to " + day, ARGUMENT, States::busy, o -> o.loan(0, 9, 50, day));
            refuse("loan to " + day + " that clashes", ARGUMENT, States::busy, o -> o.loan(0, 3, 3, day));
        }
    }

    // "loans are 0 .. 19"; "IllegalStateException: there are 20."
    private static void loansAre0To19() {
        LoanTerms x = having("a<1");
        for (int n = 0; n < 20; n++) due("loan " + n, x.loan(0, 3, n, n), n);
        refuse("loan 21", STATE, x, o -> o.loan(0, 3, 20, 20));
        refuse("loan 21", STATE, States::fullLoans, o -> o.loan(0, 9, 0, 0));
        refuse("loan 21, which clashes", STATE, States::fullLoans, o -> o.loan(0, 3, 0, 0));
        refuse("loan 21, to below from", STATE, States::fullLoans, o -> o.loan(0, 9, 1, 0));
        refuse("loan 21, no day", STATE, States::fullLoans, o -> o.loan(0, 9, 0, 100001));
        for (int contract : new int[] {-1, 1, 7, 8, LOW, HIGH}) {
            refuse("loan 21 under " + contract, INDEX, States::fullLoans, o -> o.loan(contract, 9, 0, 0));
            refuse("loan 21 under " + contract + ", days", INDEX, States::fullLoans, o -> o.loan(contract, 9, 1, 0));
        }
        for (int contract : new int[] {-1, 2, 7, 8, LOW, HIGH}) {
            refuse("loan under " + contract, INDEX, States::busy, o -> o.loan(contract, 9, 0, 0));
            refuse("loan under " + contract + ", days", INDEX, States::busy, o -> o.loan(contract, 9, 1, 0));
            refuse("loan under " + contract + " that clashes", INDEX, States::busy, o -> o.loan(contract, 3, 2, 2));
        }
        due("under the last contract", busy().loan(1, 9, 0, 0), 2);
        LoanTerms y = having("a<1");
        for (int n = 0; n < 19; n++) y.loan(0, 3, n, n);
        due("a clash with 19 loans", y.loan(0, 3, 18, 18), -1);
        due("leaves room for loan 20", y.loan(0, 3, 19, 19), 19);
    }

    // "NONE if it would clash with another loan"; "the same thing and have a day together"
    private static void noLoanThatClashes() {
        int[][] clashing = {{2, 2}, {5, 5}, {0, 2}, {5, 7}, {3, 4}, {2, 5}, {1, 6}, {9, 9}, {8, 8}, {6, 8}, {9, 100000},
            {0, 100000}};
        for (int[] c : clashing) {
            keeps("a clash of " + c[0] + " to " + c[1], -1, States::busy, o -> o.loan(0, 3, c[0], c[1]));
            due("no clash of another thing", busy().loan(0, 2, c[0], c[1]), 2);
        }
        int[][] right = {{0, 1}, {1, 1}, {6, 6}, {6, 7}, {7, 7}, {10, 10}, {10, 100000}};
        for (int[] r : right) due("no clash of " + r[0] + " to " + r[1], busy().loan(0, 3, r[0], r[1]), 2);
        due("requests do not hinder", busy().loan(0, 4, 0, 9), 2);
    }

    // "IndexOutOfBoundsException: there is no such .. loan"
    private static void loanNumbers() {
        for (int n : new int[] {-1, 2, 19, 20, 100, LOW, HIGH}) loanIsRefused(n, States::busy);
        for (int n : new int[] {-1, 20, 21}) loanIsRefused(n, States::fullLoans);
        LoanTerms x = fullLoans();
        due("shield of 19", truth(x.shield(19, true)), 1);
        due("ask of 19", x.ask(19, 190 * 24), 0);
        due("open of 19", x.open(19, 190 * 24, 0), -1);
        due("told of 19", x.told(19, -1, 0), 0);
        due("extend of 19", x.extend(19, 196, 190), 0);
        due("days of 19", x.days(19), 7);
        due("fee of 19", x.fee(19), 55);
        due("letter of 19", letter(x, 19), "#19@3:190-196=55");
    }

    private static void loanIsRefused(int n, Supplier<LoanTerms> state) {
        refuse("shield of " + n, INDEX, state, o -> truth(o.shield(n, true)));
        refuse("shield off of " + n, INDEX, state, o -> truth(o.shield(n, false)));
        refuse("ask of " + n, INDEX, state, o -> o.ask(n, 60));
        refuse("ask of " + n + ", hour", INDEX, state, o -> o.ask(n, -1));
        refuse("open of " + n, INDEX, state, o -> o.open(n, 60, 0));
        refuse("open of " + n + ", hour", INDEX, state, o -> o.open(n, 2400001, 0));
        refuse("told of " + n, INDEX, state, o -> o.told(n, -1, 0));
        refuse("extend of " + n, INDEX, state, o -> o.extend(n, 7, 3));
        refuse("extend of " + n + ", to", INDEX, state, o -> o.extend(n, 100001, 3));
        refuse("extend of " + n + ", day", INDEX, state, o -> o.extend(n, 7, -1));
        refuse("days of " + n, INDEX, state, o -> o.days(n));
        refuse("fee of " + n, INDEX, state, o -> o.fee(n));
        refuse("letter of " + n, INDEX, state, o -> o.letter(n, -1));
        refuse("first sign of the letter of " + n, INDEX, state, o -> o.letter(n, 0));
    }

    // "A loan is shielded, or not: whether that was not so."
    private static void shieldedOrNot() {
        keeps("off, as it was", 0, States::busy, o -> truth(o.shield(0, false)));
        keeps("on, as it was", 0, States::busy, o -> truth(o.shield(1, true)));
        due("on", truth(busy().shield(0, true)), 1);
        due("off", truth(busy().shield(1, false)), 1);
        LoanTerms x = busy();
        boolean[] turns = {true, true, false, false, true, false};
        int[] due = {1, 0, 1, 0, 1, 1};
        for (int i = 0; i < turns.length; i++) due("turn " + i, truth(x.shield(0, turns[i])), due[i]);
        due("the other loan stays shielded", truth(x.shield(1, true)), 0);
    }

    // "IllegalArgumentException: days."
    private static void extendDays() {
        for (int day : NO_DAYS) {
            refuse("extend to " + day, ARGUMENT, States::busy, o -> o.extend(0, day, 3));
            refuse("extend to " + day + ", told too late", ARGUMENT, States::busy, o -> o.extend(0, day, 6));
            refuse("extend on " + day, ARGUMENT, States::busy, o -> o.extend(0, 6, day));
            refuse("extend on " + day + " to no later day", ARGUMENT, States::busy, o -> o.extend(0, 5, day));
            refuse("extend on " + day + " to a clash", ARGUMENT, States::busy, o -> o.extend(0, 8, day));
        }
        due("told on day 0", busy().extend(0, 6, 0), 0);
        due("to day 0", busy().extend(0, 0, 0), 2);
        due("told on day 100000", busy().extend(0, 6, 100000), 1);
        due("to day 100000", busy().extend(1, 100000, 9), 0);
        LoanTerms x = having("a<1");
        x.loan(0, 0, 100000, 100000);
        due("on the last day of all, to it", x.extend(0, 100000, 100000), 2);
    }

    // "0; 1 if that is behind its end; 2 if to is not above its end; 3 if it would clash with another loan"
    private static void extendAnswers() {
        keeps("told the day behind its end", 1, States::busy, o -> o.extend(0, 6, 6));
        keeps("told too late, to its end", 1, States::busy, o -> o.extend(0, 5, 6));
        keeps("told too late, to a clash", 1, States::busy, o -> o.extend(0, 8, 6));
        keeps("to its end", 2, States::busy, o -> o.extend(0, 5, 5));
        keeps("to the day ahead of its end", 2, States::busy, o -> o.extend(0, 4, 5));
        keeps("to a day ahead of its first", 2, States::busy, o -> o.extend(0, 1, 5));
        keeps("to the first day of another one", 3, States::busy, o -> o.extend(0, 8, 5));
        keeps("to the last day of another one", 3, States::busy, o -> o.extend(0, 9, 5));
        keeps("to behind another one", 3, States::busy, o -> o.extend(0, 10, 5));
        LoanTerms x = busy();
        due("told on its end, to the next day", x.extend(0, 6, 5), 0);
        due("its days", x.days(0), 5);
        due("its first new day is asked", x.ask(0, 6 * 24 + 23) >= 0 ? 1 : 0, 1);
        due("the day behind is not", x.ask(0, 7 * 24), -1);
        due("told on its new end, up to the day ahead of another one", x.extend(0, 7, 6), 0);
        due("its days", x.days(0), 6);
        due("a clash of its new days", x.loan(0, 3, 7, 7), -1);
        due("it clashes with a request now", clashes(x), "0-2 0-100 0-101 2-100 ");
        due("no clash with a loan ahead of it", x.extend(1, 50, 9), 0);
        LoanTerms y = busy();
        y.loan(0, 5, 6, 7);
        due("another thing does not hinder", y.extend(0, 7, 5), 0);
        due("requests do not hinder", y.extend(2, 9, 7), 0);
    }

    // "REQUESTS are 0 .. 29"; "IllegalStateException: there are 30."
    private static void requestsAre0To29() {
        LoanTerms x = new LoanTerms();
        for (int n = 0; n < 30; n++) due("request " + n, x.request(0, n, n), n);
        refuse("request 31", STATE, x, o -> o.request(0, 50, 50));
        refuse("request 31", STATE, States::fullRequests, o -> o.request(3, 50, 50));
        refuse("request 31, to below from", STATE, States::fullRequests, o -> o.request(3, 5, 4));
        refuse("request 31, no day", STATE, States::fullRequests, o -> o.request(3, -1, 4));
        due("loans have room", fullRequests().loan(0, 3, 0, 9), 0);
    }

    // "IllegalArgumentException: days, or to is below from."
    private static void requestDays() {
        int[][] right = {{0, 0}, {0, 100000}, {100000, 100000}, {99999, 100000}, {7, 7}, {7, 8}};
        for (int[] r : right) due("request from " + r[0] + " to " + r[1], busy().request(3, r[0], r[1]), 3);
        int[][] bad = {{1, 0}, {8, 7}, {100000, 99999}, {100000, 0}, {-1, -1}, {100001, 100001}, {HIGH, LOW}};
        for (int[] b : bad) {
            refuse("request from " + b[0] + " to " + b[1], ARGUMENT, States::busy, o -> o.request(3, b[0], b[1]));
        }
        for (int day : NO_DAYS) {
            refuse("request from " + day, ARGUMENT, States::busy, o -> o.request(3, day, 50));
            refuse("request to " + day, ARGUMENT, States::busy, o -> o.request(3, 50, day));
        }
    }

    // "Two of these CLASH if they are of the same thing and have a day together."
    private static void clashesOfBothKinds() {
        int[][] clashing = {{10, 10}, {20, 20}, {0, 10}, {20, 30}, {12, 15}, {10, 20}, {9, 21}, {0, 100000}};
        for (int[] c : clashing) {
            due("with a request: " + c[0] + " to " + c[1], clashes(requested(5, c[0], c[1], false)), "0-1 ");
            due("with a loan: " + c[0] + " to " + c[1], clashes(requested(5, c[0], c[1], true)), "0-100 ");
            due("of another thing", clashes(requested(6, c[0], c[1], false)), "");
            due("with a loan of another thing", clashes(requested(6, c[0], c[1], true)), "");
        }
        int[][] apart = {{0, 9}, {9, 9}, {21, 21}, {21, 100000}};
        for (int[] a : apart) {
            due("not with a request: " + a[0] + " to " + a[1], clashes(requested(5, a[0], a[1], false)), "");
            due("not with a loan: " + a[0] + " to " + a[1], clashes(requested(5, a[0], a[1], true)), "");
        }
    }

    /** A request beside another one, or a loan, of thing 5 from day 10 to day 20. */
    private static LoanTerms requested(int thing, int from, int to, boolean byLoan) {
        LoanTerms x = having("a<1");
        x.request(thing, from, to);
        if (byLoan) x.loan(0, 5, 10, 20);
        else x.request(5, 10, 20);
        return x;
    }

    // "NONE if there are not so many"; "IndexOutOfBoundsException: k is below 0, or which is neither."
    private static void clashPlaces() {
        due("pairs of a busy object", clashes(busy()), "0-2 0-100 0-101 2-100 ");
        due("the last pair", busy().clash(3, 1), 100);
        for (int k : new int[] {4, 5, 1000, HIGH}) {
            keeps("pair " + k, -1, States::busy, o -> o.clash(k, 0));
            keeps("pair " + k + ", the other one", -1, States::busy, o -> o.clash(k, 1));
        }
        for (int k : new int[] {-1, -2, LOW}) {
            refuse("pair " + k, INDEX, States::busy, o -> o.clash(k, 0));
            refuse("pair " + k + " of none", INDEX, LoanTerms::new, o -> o.clash(k, 1));
        }
        for (int which : new int[] {-1, 2, LOW, HIGH}) {
            refuse("which " + which, INDEX, States::busy, o -> o.clash(0, which));
            refuse("which " + which + " of a pair that is not", INDEX, States::busy, o -> o.clash(4, which));
            refuse("which " + which + " of none", INDEX, LoanTerms::new, o -> o.clash(0, which));
        }
    }

    // "by the lower number, then the other one": 435 pairs of requests and 600 with loans
    private static void clashOfFullRows() {
        LoanTerms x = fullLoans();
        for (int n = 0; n < 30; n++) x.request(3, 0, 100000);
        int ahead = 0;
        for (int lower = 0; lower < 30; lower++) {
            int requests = 29 - lower;
            due("lower one of the first pair of " + lower, x.clash(ahead, 0), lower);
            due("other one of the first pair of " + lower, x.clash(ahead, 1), requests > 0 ? lower + 1 : 100);
            if (requests > 0) due("last request of " + lower, x.clash(ahead + requests - 1, 1), 29);
            due("first loan of " + lower, x.clash(ahead + requests, 1), 100);
            due("last loan of " + lower, x.clash(ahead + requests + 19, 1), 119);
            due("lower one of the last pair of " + lower, x.clash(ahead + requests + 19, 0), lower);
            ahead += requests + 20;
        }
        due("pairs", ahead, 1035);
        due("none behind the last pair", x.clash(1035, 0), -1);
        due("none behind the last pair, the other one", x.clash(1035, 1), -1);
    }

    // "The days of a loan, with both ends."
    private static void daysWithBothEnds() {
        int[][] spans = {{0, 0}, {100000, 100000}, {0, 1}, {0, 100000}, {1, 100000}};
        int[] due = {1, 1, 2, 100001, 100000};
        for (int i = 0; i < spans.length; i++) {
            LoanTerms x = having("a<1");
            x.loan(0, 0, spans[i][0], spans[i][1]);
            due("days of " + spans[i][0] + " to " + spans[i][1], x.days(0), due[i]);
        }
    }

    // "5 for each day and 20 for each term, 300 if it is not shielded, 50 for each that was told"
    private static void feeOfEach() {
        LoanTerms x = having("z=0", "z=0;z=0;z=0;z=0;z=0;z=0", "z=0;y<0");
        x.loan(0, 0, 0, 0);
        x.loan(1, 1, 0, 0);
        x.loan(0, 2, 0, 100000);
        x.loan(2, 3, 0, 0);
        due("one day, one term", x.fee(0), 5 + 20 + 300);
        due("six terms", x.fee(1), 5 + 120 + 300);
        due("all days", x.fee(2), 500005 + 20 + 300);
        x.shield(0, true);
        due("shielded", x.fee(0), 25);
        due("another one is not", x.fee(1), 425);
        x.shield(0, false);
        due("not shielded", x.fee(0), 325);
        x.ask(3, 0);
        due("one told", x.fee(3), 5 + 40 + 300 + 50);
        x.ask(3, 1);
        due("not told again", x.fee(3), 5 + 40 + 300 + 50);
        x.shield(3, true);
        x.ask(3, 2);
        due("two told, and shielded", x.fee(3), 5 + 40 + 100);
        x.extend(3, 1, 0);
        due("a day more", x.fee(3), 10 + 40 + 100);
    }

    // "i = -1: how many signs it has. IndexOutOfBoundsException."
    private static void letterPlaces() {
        String text = "#0@3:2-5=450!0";
        due("a letter", letter(busy(), 0), text);
        due("how many", busy().letter(0, -1), 14);
        due("the first", busy().letter(0, 0), '#');
        due("the last", busy().letter(0, 13), '0');
        for (int i : new int[] {-2, 14, 15, LOW, HIGH}) {
            refuse("letter's sign " + i, INDEX, States::busy, o -> o.letter(0, i));
        }
        due("a letter of none told", letter(busy(), 1), "#1@3:8-9=30");
        due("with 100 told", fullTold().letter(0, -1), "#0@0:0-9=5470".length() + 200);
        due("its last sign", fullTold().letter(0, 212), '3');
        refuse("no sign behind it", INDEX, States::fullTold, o -> o.letter(0, 213));
    }

    // ""#", its number, "@", its thing, ":", its first day, "-", its last one, "=", its fee"
    private static void letterNumbers() {
        LoanTerms x = having("z=1");
        for (int n = 0; n < 17; n++) x.loan(0, 1, n, n);
        x.loan(0, 0, 0, 0);
        x.loan(0, 9, 0, 100000);
        x.loan(0, 15, 100000, 100000);
        due("number 9", letter(x, 9), "#9@1:9-9=325");
        due("number 10", letter(x, 10), "#10@1:10-10=325");
        due("thing 0, day 0", letter(x, 17), "#17@0:0-0=325");
        due("all days", letter(x, 18), "#18@9:0-100000=500325");
        due("number 19, thing 15, day 100000", letter(x, 19), "#19@15:100000-100000=325");
        x.shield(19, true);
        due("a fee of two digits", letter(x, 19), "#19@15:100000-100000=25");
        LoanTerms longest = having("z=1;z=1;z=1;z=1;z=1;z=1");
        longest.loan(0, 0, 10000, 100000);
        for (int hour = 240000; hour < 240017; hour++) tellAndMend(longest, hour);
        due("a long letter", longest.letter(0, -1), "#0@0:10000-100000=455425".length() + 200);
        due("its fee's last digit", longest.letter(0, 23), '5');
        due("the first that was told", longest.letter(0, 24), '!');
        due("its last sign", longest.letter(0, 223), '3');
    }

    // "0 signs of the pad, 1 contracts, 2 loans, 3 requests, 4 rows of all inputs. .. none of these."
    private static void countOfEach() {
        int[] due = {7, 2, 2, 3, 3};
        for (int what = 0; what <= 4; what++) due("count " + what, busy().count(what), due[what]);
        for (int what : new int[] {-1, 5, 6, LOW, HIGH}) {
            refuse("count " + what, INDEX, States::busy, o -> o.count(what));
        }
    }

    private static void countOfFull() {
        due("signs", fullPad().count(0), 80);
        due("contracts", fullContracts().count(1), 8);
        due("loans", fullLoans().count(2), 20);
        due("requests", fullRequests().count(3), 30);
        LoanTerms x = new LoanTerms();
        for (int n = 0; n < 8; n++) {
            for (int hour = 0; hour < 60; hour++) x.input(n, hour, n);
        }
        due("rows", x.count(4), 480);
        refuse("row 481", STATE, x, o -> o.input(7, 60, 0));
        due("still 480", x.count(4), 480);
    }
}
