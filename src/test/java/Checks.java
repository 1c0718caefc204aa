import java.util.function.Supplier;
import java.util.function.ToLongFunction;

/** What the tests share: checks that are counted, and an object's state as a text. */
abstract class Checks {
    static final Class<? extends Exception> INDEX = IndexOutOfBoundsException.class;
    static final Class<? extends Exception> STATE = IllegalStateException.class;
    static final Class<? extends Exception> ARGUMENT = IllegalArgumentException.class;
    static final int LOW = Integer.MIN_VALUE;
    static final int HIGH = Integer.MAX_VALUE;

    // A look stays within the 512 calls of an object, so of long rows it sees the ends alone.
    private static final int MOST_SEEN = 20;

    private static int checks = 0;
    private static int wrong = 0;

    static void endWithCount() {
        System.out.println(checks + " checks, " + wrong + " wrong");
        if (wrong != 0) System.exit(1);
    }

    static void due(String what, long got, long want) {
        due(what, Long.toString(got), Long.toString(want));
    }

    static void due(String what, String got, String want) {
        checks++;
        if (!got.equals(want)) {
            wrong++;
            System.out.println(what + ": answered " + got + ", due is " + want);
        }
    }

    /** The answer, or the name of what was thrown. */
    static String outcome(LoanTerms x, ToLongFunction<LoanTerms> call) {
        try {
            return Long.toString(call.applyAsLong(x));
        } catch (RuntimeException e) {
            return e.getClass().getSimpleName();
        }
    }

    static void refuse(String what, Class<? extends Exception> due, LoanTerms x, ToLongFunction<LoanTerms> call) {
        due(what, outcome(x, call), due.getSimpleName());
    }

    /** The call throws that on an object of this state, which then shows nothing else than its twin. */
    static void refuse(String what, Class<? extends Exception> due, Supplier<LoanTerms> state,
            ToLongFunction<LoanTerms> call) {
        keeps(what, due.getSimpleName(), state, call);
    }

    static void keeps(String what, long answer, Supplier<LoanTerms> state, ToLongFunction<LoanTerms> call) {
        keeps(what, Long.toString(answer), state, call);
    }

    private static void keeps(String what, String outcome, Supplier<LoanTerms> state, ToLongFunction<LoanTerms> call) {
        LoanTerms x = state.get();
        due(what, outcome(x, call), outcome);
        due(what + " changes nothing", look(x), look(state.get()));
    }

    static void put(LoanTerms x, String text) {
        for (int i = 0; i < text.length(); i++) x.unit(text.charAt(i));
    }

    static int read(LoanTerms x, String text) {
        put(x, text);
        return x.read();
    }

    static LoanTerms having(String... texts) {
        LoanTerms x = new LoanTerms();
        for (String text : texts) read(x, text);
        return x;
    }

    static String written(LoanTerms x, int contract) {
        StringBuilder text = new StringBuilder();
        int size = x.written(contract, -1);
        for (int i = 0; i < size; i++) text.append((char) x.written(contract, i));
        refuse("behind the end of " + text, INDEX, x, o -> o.written(contract, size));
        return text.toString();
    }

    static String letter(LoanTerms x, int loan) {
        StringBuilder text = new StringBuilder();
        int size = x.letter(loan, -1);
        for (int i = 0; i < size; i++) text.append((char) x.letter(loan, i));
        refuse("behind the end of " + text, INDEX, x, o -> o.letter(loan, size));
        return text.toString();
    }

    static String told(LoanTerms x, int loan) {
        StringBuilder text = new StringBuilder();
        int size = x.told(loan, -1, 0);
        for (int k = Math.max(0, size - MOST_SEEN); k < size; k++) {
            text.append(x.told(loan, k, 0)).append('.').append(x.told(loan, k, 1)).append(' ');
        }
        return text.toString();
    }

    static String clashes(LoanTerms x) {
        StringBuilder text = new StringBuilder();
        for (int k = 0; k < MOST_SEEN && x.clash(k, 0) != LoanTerms.NONE; k++) {
            text.append(x.clash(k, 0)).append('-').append(x.clash(k, 1)).append(' ');
        }
        return text.toString();
    }

    static long truth(boolean b) {
        return b ? 1 : 0;
    }

    /** All that an object shows; the calls at its end change the object, to see what is hidden before them. */
    static String look(LoanTerms x) {
        StringBuilder seen = new StringBuilder();
        for (int what = 0; what <= 4; what++) seen.append(x.count(what)).append(' ');
        int contracts = x.count(1);
        for (int n = 0; n < contracts; n++) {
            seen.append(x.terms(n)).append(contracts > 3 ? "" + x.written(n, -1) : written(x, n)).append(' ');
        }
        int loans = x.count(2);
        for (int n = 0; n < loans; n++) {
            seen.append(x.days(n)).append('d').append(x.fee(n)).append('f').append(x.letter(n, -1)).append(' ');
        }
        seen.append(clashes(x));
        for (int n = 0; n < Math.min(2, loans); n++) lookAtLoan(seen, x, n);
        lookByChanges(seen, x);
        return seen.toString();
    }

    private static void lookAtLoan(StringBuilder seen, LoanTerms x, int loan) {
        int size = x.letter(loan, -1);
        for (int i = Math.max(0, size - MOST_SEEN); i < size; i++) seen.append((char) x.letter(loan, i));
        seen.append(' ').append(told(x, loan));
        int[] hours = {0, 47, 48, 61, 80, 119, 200, 2400000};
        for (int hour : hours) seen.append(x.open(loan, hour, 0)).append(x.open(loan, hour, 1)).append(' ');
        for (int hour : hours) seen.append(x.ask(loan, hour)).append(' ').append(x.told(loan, -1, 0)).append(' ');
    }

    private static void lookByChanges(StringBuilder seen, LoanTerms x) {
        for (int n = 0; n < 8; n++) {
            int name = n;
            seen.append(outcome(x, o -> o.input(name, 2400000, 1))).append(' ');
        }
        seen.append(outcome(x, o -> o.request(3, 0, 9))).append(outcome(x, o -> o.loan(0, 3, 6, 7)));
        seen.append(outcome(x, o -> o.extend(0, 90000, 0))).append(outcome(x, o -> truth(o.shield(0, true))));
        String contract = outcome(x, LoanTerms::read);
        seen.append(' ').append(contract).append(' ').append(x.count(0)).append(' ');
        if (contract.matches("[0-7]")) seen.append(written(x, Integer.parseInt(contract)));
    }
}
