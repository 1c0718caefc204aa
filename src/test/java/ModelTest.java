import java.util.ArrayList;
import java.util.List;
import java.util.Map;
import java.util.Random;
import java.util.TreeMap;

/** Runs of calls by a fixed seed, each answer and exception held against a second model of the document. */
public final class ModelTest {
    private static final int RUNS = 3000;
    private static final int CALLS = 512;

    public static void main(String[] args) {
        int wrong = 0;
        long calls = 0;
        for (int seed = 0; seed < RUNS && wrong < 5; seed++) {
            Run run = new Run(seed);
            if (!run.holds()) wrong++;
            calls += run.log.size();
        }
        System.out.println(calls + " calls in " + RUNS + " runs, " + wrong + " runs wrong");
        if (wrong != 0) System.exit(1);
    }

    /** One object and its model under the same calls. */
    private static final class Run {
        final Random random;
        final LoanTerms real = new LoanTerms();
        final Model model = new Model();
        final List<String> log = new ArrayList<>();
        final Texts texts;
        String waiting = "";
        // Few things and days make clashes; a run that is full of one call meets that call's limit.
        final int favourite;
        final int dayRange;
        int hour = 0;

        Run(int seed) {
            random = new Random(seed);
            texts = new Texts(random);
            favourite = random.nextInt(24);
            dayRange = 2 + random.nextInt(60);
        }

        boolean holds() {
            for (int n = 0; n < CALLS; n++) {
                int[] call = nextCall();
                String due = outcome(model, call);
                String got = outcome(real, call);
                log.add(name(call) + " => " + got);
                if (!due.equals(got)) {
                    System.out.println("due is " + due + " at the end of:\n" + String.join("\n", log));
                    return false;
                }
            }
            return true;
        }

        int[] nextCall() {
            if (!waiting.isEmpty()) {
                int sign = waiting.charAt(0);
                waiting = waiting.substring(1);
                return new int[] {sign == 1 ? 1 : 0, sign};
            }
            int kind = random.nextInt(24);
            if (random.nextInt(3) == 0) kind = favourite;
            if (kind < 2) {
                waiting = texts.next() + '\u0001';
                return nextCall();
            }
            switch (kind) {
                case 2: return new int[] {2, contract()};
                case 3: return new int[] {3, contract(), place(119)};
                case 4: case 5: return new int[] {4, edge(8), risingHour(), random.nextInt(9) == 0 ? edge(1000000) : random.nextInt(4)};
                case 6: { int from = hour(); return new int[] {5, edge(8), from, odd() ? hour() : from + random.nextInt(40)}; }
                case 7: { int from = day(); return new int[] {6, contract(), thing(), from, odd() ? day() : from + random.nextInt(5)}; }
                case 8: case 9: return new int[] {7, loan(), random.nextInt(2)};
                case 10: case 11: case 12: case 13: return new int[] {8, loan(), hour()};
                case 14: case 15: return new int[] {9, loan(), hour(), random.nextInt(8) - 1};
                case 16: return new int[] {10, loan(), place(30), random.nextInt(9) == 0 ? edge(2) : random.nextInt(2)};
                case 17: return new int[] {11, loan(), day(), day()};
                case 18: { int from = day(); return new int[] {12, thing(), from, odd() ? day() : from + random.nextInt(5)}; }
                case 19: return new int[] {13, place(40), random.nextInt(9) == 0 ? edge(2) : random.nextInt(2)};
                case 20: return new int[] {14, loan()};
                case 21: return new int[] {15, loan()};
                case 22: return new int[] {16, loan(), place(40)};
                default: return random.nextInt(3) == 0 ? new int[] {0, edge(128)} : new int[] {17, edge(5)};
            }
        }

        boolean odd() { return random.nextInt(6) == 0; }
        int contract() { return odd() ? edge(8) : random.nextInt(1 + model.contracts.size()); }
        int loan() { return odd() ? edge(20) : random.nextInt(1 + model.loans.size()); }
        int thing() { return random.nextInt(12) == 0 ? edge(16) : random.nextInt(3); }
        int place(int most) { return random.nextInt(most + 2) - 1; }
        int day() { return random.nextInt(25) == 0 ? edge(100001) : random.nextInt(dayRange); }
        int hour() { return random.nextInt(25) == 0 ? edge(2400001) : random.nextInt(24 * dayRange); }

        int risingHour() {
            if (odd()) return hour();
            hour += random.nextInt(24 * dayRange / 20 + 1);
            return hour;
        }

        /** A number from 0 to below an end, or one at or just outside of these. */
        int edge(int end) {
            switch (random.nextInt(8)) {
                case 0: return -1;
                case 1: return end;
                case 2: return end - 1;
                case 3: return random.nextBoolean() ? Integer.MIN_VALUE : Integer.MAX_VALUE;
                default: return random.nextInt(end);
            }
        }
    }

    private static final String[] NAMES = {"unit", "read", "terms", "written", "input", "fails", "loan", "shield", "ask", "open",
        "told", "extend", "request", "clash", "days", "fee", "letter", "count"};

    private static String name(int[] call) {
        StringBuilder text = new StringBuilder(NAMES[call[0]]).append('(');
        for (int i = 1; i < call.length; i++) text.append(i > 1 ? ", " : "").append(call[i]);
        return text.append(')').toString();
    }

    private static String outcome(LoanTerms x, int[] c) {
        try {
            return Long.toString(answer(x, c));
        } catch (RuntimeException e) {
            return e.getClass().getSimpleName();
        }
    }

    private static long answer(LoanTerms x, int[] c) {
        switch (c[0]) {
            case 0: return x.unit(c[1]);
            case 1: return x.read();
            case 2: return x.terms(c[1]);
            case 3: return x.written(c[1], c[2]);
            case 4: return x.input(c[1], c[2], c[3]);
            case 5: x.fails(c[1], c[2], c[3]); return 0;
            case 6: return x.loan(c[1], c[2], c[3], c[4]);
            case 7: return x.shield(c[1], c[2] == 1) ? 1 : 0;
            case 8: return x.ask(c[1], c[2]);
            case 9: return x.open(c[1], c[2], c[3]);
            case 10: return x.told(c[1], c[2], c[3]);
            case 11: return x.extend(c[1], c[2], c[3]);
            case 12: return x.request(c[1], c[2], c[3]);
            case 13: return x.clash(c[1], c[2]);
            case 14: return x.days(c[1]);
            case 15: return x.fee(c[1]);
            case 16: return x.letter(c[1], c[2]);
            default: return x.count(c[1]);
        }
    }

    private static String outcome(Model m, int[] c) {
        try {
            return Long.toString(m.answer(c));
        } catch (Refusal r) {
            return r.getMessage();
        }
    }

    /** Terms texts, most of them right, some of them spoilt. */
    private static final class Texts {
        final Random random;

        Texts(Random random) { this.random = random; }

        String next() {
            StringBuilder text = new StringBuilder(term(0));
            int more = random.nextInt(10) == 0 ? 5 + random.nextInt(2) : random.nextInt(3);
            for (int i = 0; i < more; i++) text.append(';').append(term(more > 3 ? 6 : 0));
            if (random.nextInt(3) == 0) spoil(text);
            if (random.nextInt(10) == 0) text.setLength(random.nextInt(text.length() + 1));
            return text.length() > 80 && random.nextInt(8) != 0 ? text.substring(0, 3) : text.toString();
        }

        void spoil(StringBuilder text) {
            String signs = "!!(()&|;<=>09azx~";
            int place = random.nextInt(text.length());
            char sign = signs.charAt(random.nextInt(signs.length()));
            if (random.nextBoolean()) text.insert(place, sign);
            else text.setCharAt(place, sign);
        }

        String term(int depth) { return joined("|", depth); }

        String joined(String joint, int depth) {
            StringBuilder text = new StringBuilder();
            int more = random.nextInt(3) == 0 && depth < 6 ? 1 + random.nextInt(2) : 0;
            for (int i = 0; i <= more; i++) {
                if (i > 0) text.append(joint);
                text.append(joint.equals("|") ? joined("&", depth) : bit(depth));
            }
            return text.toString();
        }

        String bit(int depth) {
            int pick = random.nextInt(8);
            if (pick == 0) return "!" + bit(depth + 1);
            if (pick == 1 && depth < 6) return "(" + term(depth + 1) + ")";
            if (pick == 2 && random.nextInt(4) == 0) return "((((((!!!!".substring(random.nextInt(5), 5 + random.nextInt(6)) + bit(6);
            String number = random.nextInt(6) == 0 ? "0000" + random.nextInt(1000) : Integer.toString(random.nextInt(4));
            return "" + "abcdefghyz".charAt(random.nextInt(10)) + "<=>".charAt(random.nextInt(3)) + number;
        }
    }

    private static final class Refusal extends RuntimeException {
        private static final long serialVersionUID = 1;

        Refusal(String name) { super(name); }
    }

    /** Thrown where a name that is looked at fails or has no row yet. */
    private static final class OpenTerm extends RuntimeException {
        private static final long serialVersionUID = 1;
    }

    private static final class Lent {
        List<String> terms;
        int thing;
        int from;
        int to;
        boolean shielded;
        final List<int[]> told = new ArrayList<>();
        final List<Integer> standing = new ArrayList<>();
    }

    /** The document again, over texts and maps, without a tree and without three-valued logic. */
    private static final class Model {
        String pad = "";
        final List<List<String>> contracts = new ArrayList<>();
        final List<TreeMap<Integer, Integer>> inputs = new ArrayList<>();
        final int[][] failing = new int[8][];
        final List<Lent> loans = new ArrayList<>();
        final List<Lent> requests = new ArrayList<>();

        Model() { for (int i = 0; i < 8; i++) inputs.add(new TreeMap<>()); }

        long answer(int[] c) {
            switch (c[0]) {
                case 0: return unit(c[1]);
                case 1: return read();
                case 2: return contract(c[1]).size();
                case 3: return sign(written(contract(c[1])), c[2]);
                case 4: return input(c[1], c[2], c[3]);
                case 5: return fails(c[1], c[2], c[3]);
                case 6: return loan(c[1], c[2], c[3], c[4]);
                case 7: { boolean old = lent(c[1]).shielded; lent(c[1]).shielded = c[2] == 1; return old == (c[2] == 1) ? 0 : 1; }
                case 8: return ask(lent(c[1]), c[2]);
                case 9: return open(lent(c[1]), c[2], c[3]);
                case 10: return told(lent(c[1]), c[2], c[3]);
                case 11: return extend(lent(c[1]), c[2], c[3]);
                case 12: return request(c[1], c[2], c[3]);
                case 13: return clash(c[1], c[2]);
                case 14: return lent(c[1]).to - lent(c[1]).from + 1;
                case 15: return fee(lent(c[1]));
                case 16: return sign(letter(c[1]), c[2]);
                default: return count(c[1]);
            }
        }

        static void index(boolean right) { if (!right) throw new Refusal("IndexOutOfBoundsException"); }
        static void state(boolean right) { if (!right) throw new Refusal("IllegalStateException"); }
        static void argument(boolean right) { if (!right) throw new Refusal("IllegalArgumentException"); }
        static boolean within(int n, int first, int last) { return n >= first && n <= last; }

        List<String> contract(int n) { index(within(n, 0, contracts.size() - 1)); return contracts.get(n); }
        Lent lent(int n) { index(within(n, 0, loans.size() - 1)); return loans.get(n); }

        static int sign(String text, int i) {
            index(within(i, -1, text.length() - 1));
            return i == -1 ? text.length() : text.charAt(i);
        }

        int unit(int sign) {
            state(pad.length() < 80);
            argument(within(sign, 33, 126));
            pad += (char) sign;
            return pad.length();
        }

        int read() {
            state(contracts.size() < 8);
            String text = pad;
            pad = "";
            for (int end = 1; end <= text.length(); end++) {
                if (!canGoOn(text.substring(0, end))) return -end;
            }
            if (!isText(text)) return -1 - text.length();
            contracts.add(split(text, ';'));
            return contracts.size() - 1;
        }

        static boolean canGoOn(String start) {
            for (String rest : new String[] {"", "1", "<1", "a<1"}) {
                for (int brackets = 0; brackets <= 5; brackets++) {
                    if (isText(start + rest + ")".repeat(brackets))) return true;
                }
            }
            return false;
        }

        static boolean isText(String text) {
            List<String> terms = split(text + " ", ';');
            if (terms.size() > 6 || text.contains("!!!!") || !text.matches("[!-~]+")) return false;
            int open = 0;
            for (char sign : text.toCharArray()) {
                open += sign == '(' ? 1 : sign == ')' ? -1 : 0;
                if (open > 5 || open < 0) return false;
            }
            String rest = text.replaceAll("[a-hyz][<=>][0-9]{1,6}(?![0-9])", " ");
            for (String former = ""; !former.equals(rest);) {
                former = rest;
                rest = rest.replace("! ", " ").replace("( )", " ").replace(" & ", " ").replace(" | ", " ");
            }
            return rest.matches(" (; )*");
        }

        /** The pieces between the joints that stand in no bracket. */
        static List<String> split(String text, char joint) {
            List<String> pieces = new ArrayList<>();
            int open = 0;
            int start = 0;
            for (int i = 0; i < text.length(); i++) {
                char sign = text.charAt(i);
                open += sign == '(' ? 1 : sign == ')' ? -1 : 0;
                if (sign == joint && open == 0) {
                    pieces.add(text.substring(start, i));
                    start = i + 1;
                }
            }
            pieces.add(text.substring(start));
            return pieces;
        }

        static String written(List<String> terms) {
            StringBuilder text = new StringBuilder();
            for (String term : terms) text.append(writtenTerm(term)).append(';');
            return text.toString();
        }

        static String writtenTerm(String term) {
            List<String> parts = new ArrayList<>();
            for (String part : split(term, '|')) {
                List<String> bits = new ArrayList<>();
                for (String bit : split(part, '&')) bits.add(writtenBit(bit));
                parts.add(bits.size() == 1 ? bits.get(0) : "(" + String.join("&", bits) + ")");
            }
            return parts.size() == 1 ? parts.get(0) : "(" + String.join("|", parts) + ")";
        }

        static String writtenBit(String bit) {
            if (bit.startsWith("!")) return "!" + writtenBit(bit.substring(1));
            if (bit.startsWith("(")) return writtenTerm(bit.substring(1, bit.length() - 1));
            return bit.substring(0, 2) + Integer.parseInt(bit.substring(2));
        }

        int input(int name, int hour, int v) {
            index(within(name, 0, 7));
            TreeMap<Integer, Integer> rows = inputs.get(name);
            state(rows.size() < 60);
            argument(within(hour, 0, 2400000) && within(v, 0, 999999) && (rows.isEmpty() || hour > rows.lastKey()));
            rows.put(hour, v);
            return rows.size();
        }

        int fails(int name, int from, int to) {
            index(within(name, 0, 7));
            argument(within(from, 0, 2400000) && within(to, from, 2400000));
            failing[name] = new int[] {from, to};
            return 0;
        }

        static Lent days(int thing, int from, int to) {
            argument(within(from, 0, 100000) && within(to, from, 100000));
            Lent lent = new Lent();
            lent.thing = thing;
            lent.from = from;
            lent.to = to;
            return lent;
        }

        static boolean clashing(Lent a, Lent b) {
            return a.thing == b.thing && Math.max(a.from, b.from) <= Math.min(a.to, b.to);
        }

        int loan(int contract, int thing, int from, int to) {
            List<String> terms = contract(contract);
            index(within(thing, 0, 15));
            state(loans.size() < 20);
            Lent lent = days(thing, from, to);
            lent.terms = terms;
            for (Lent other : loans) if (clashing(lent, other)) return -1;
            loans.add(lent);
            return loans.size() - 1;
        }

        int value(Lent lent, char name, int hour) {
            if (name == 'y') return hour / 24 - lent.from;
            if (name == 'z') return lent.shielded ? 1 : 0;
            int[] hours = failing[name - 'a'];
            Map.Entry<Integer, Integer> row = inputs.get(name - 'a').floorEntry(hour);
            if (row == null || (hours != null && within(hour, hours[0], hours[1]))) throw new OpenTerm();
            return row.getValue();
        }

        boolean isTrue(Lent lent, String term, int hour) {
            for (String part : split(term, '|')) {
                boolean all = true;
                for (String bit : split(part, '&')) {
                    all = isTrueBit(lent, bit, hour);
                    if (!all) break;
                }
                if (all) return true;
            }
            return false;
        }

        boolean isTrueBit(Lent lent, String bit, int hour) {
            if (bit.startsWith("!")) return !isTrueBit(lent, bit.substring(1), hour);
            if (bit.startsWith("(")) return isTrue(lent, bit.substring(1, bit.length() - 1), hour);
            int order = Integer.compare(value(lent, bit.charAt(0), hour), Integer.parseInt(bit.substring(2)));
            return order == "<=>".indexOf(bit.charAt(1)) - 1;
        }

        /** 'g' good, 'b' broken, 'o' open, a sign for each term. */
        String states(Lent lent, int hour) {
            StringBuilder states = new StringBuilder();
            for (String term : lent.terms) {
                try {
                    states.append(isTrue(lent, term, hour) ? 'g' : 'b');
                } catch (OpenTerm open) {
                    states.append('o');
                }
            }
            return states.toString();
        }

        int ask(Lent lent, int hour) {
            argument(within(hour, 0, 2400000));
            if (!within(hour / 24, lent.from, lent.to)) return -1;
            String states = states(lent, hour);
            for (Integer term = 0; term < states.length(); term++) {
                if (states.charAt(term) == 'g') lent.standing.remove(term);
                if (states.charAt(term) == 'b' && !lent.standing.contains(term) && lent.told.size() < 100) {
                    lent.told.add(new int[] {hour, term});
                    lent.standing.add(term);
                }
            }
            return states.indexOf('b') + 1;
        }

        int open(Lent lent, int hour, int k) {
            index(k >= 0);
            argument(within(hour, 0, 2400000));
            String states = states(lent, hour);
            int term = states.indexOf('o');
            for (int i = 0; i < k && term >= 0; i++) term = states.indexOf('o', term + 1);
            return term;
        }

        int told(Lent lent, int k, int what) {
            index(within(k, -1, lent.told.size() - 1) && within(what, 0, 1));
            return k == -1 ? lent.told.size() : lent.told.get(k)[what];
        }

        int extend(Lent lent, int to, int day) {
            argument(within(to, 0, 100000) && within(day, 0, 100000));
            if (day > lent.to) return 1;
            if (to <= lent.to) return 2;
            for (Lent other : loans) {
                if (other != lent && other.thing == lent.thing && other.from > lent.to && other.from <= to) return 3;
            }
            lent.to = to;
            return 0;
        }

        int request(int thing, int from, int to) {
            index(within(thing, 0, 15));
            state(requests.size() < 30);
            requests.add(days(thing, from, to));
            return requests.size() - 1;
        }

        int clash(int k, int which) {
            index(k >= 0 && within(which, 0, 1));
            List<int[]> pairs = new ArrayList<>();
            for (int a = 0; a < requests.size(); a++) {
                for (int b = a + 1; b < requests.size(); b++) {
                    if (clashing(requests.get(a), requests.get(b))) pairs.add(new int[] {a, b});
                }
                for (int b = 0; b < loans.size(); b++) {
                    if (clashing(requests.get(a), loans.get(b))) pairs.add(new int[] {a, 100 + b});
                }
            }
            return k < pairs.size() ? pairs.get(k)[which] : -1;
        }

        static int fee(Lent lent) {
            return 5 * (lent.to - lent.from + 1) + 20 * lent.terms.size() + (lent.shielded ? 0 : 300) + 50 * lent.told.size();
        }

        String letter(int loan) {
            Lent lent = lent(loan);
            String text = "#" + loan + "@" + lent.thing + ":" + lent.from + "-" + lent.to + "=" + fee(lent);
            for (int[] told : lent.told) text += "!" + told[1];
            return text;
        }

        int count(int what) {
            index(within(what, 0, 4));
            int rows = 0;
            for (TreeMap<Integer, Integer> input : inputs) rows += input.size();
            return new int[] {pad.length(), contracts.size(), loans.size(), requests.size(), rows}[what];
        }
    }
}
