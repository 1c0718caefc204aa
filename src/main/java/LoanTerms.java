/** Loans of things under terms that are told as texts. The promises by number stand in DOC.md. */
public final class LoanTerms {
    public static final int NONE = -1;

    private static final int PAD_LIMIT = 80;
    private static final int FIRST_SIGN = 33;
    private static final int LAST_SIGN = 126;
    private static final int CONTRACT_LIMIT = 8;
    private static final int TERM_LIMIT = 6;
    private static final int BRACKET_LIMIT = 5;
    private static final int NOT_LIMIT = 3;
    private static final int DIGIT_LIMIT = 6;
    private static final int INPUT_LIMIT = 8;
    private static final int INPUT_ROW_LIMIT = 60;
    private static final int LAST_VALUE = 999999;
    private static final int LAST_HOUR = 2400000;
    private static final int LAST_DAY = 100000;
    private static final int DAY_HOURS = 24;
    private static final int THING_LIMIT = 16;
    private static final int LOAN_LIMIT = 20;
    private static final int REQUEST_LIMIT = 30;
    private static final int TOLD_LIMIT = 100;
    private static final int LOAN_OFFSET = 100;

    // The longest row is a letter of at most 227 signs; a written contract has at most 119.
    private static final int ROW_LIMIT = 240;
    // Six bracket levels, each at most "|", "&" and three "!", and a name: 31 levels.
    private static final int LEVEL_LIMIT = 40;

    private static final int BROKEN = 0;
    private static final int GOOD = 1;
    private static final int OPEN = 2;

    private final Row pad = new Row();
    private final Row letterRow = new Row();
    private final Contract[] contracts = new Contract[CONTRACT_LIMIT];
    private final Input[] inputs = new Input[INPUT_LIMIT];
    private final Loan[] loans = new Loan[LOAN_LIMIT];
    private final Span[] requests = new Span[REQUEST_LIMIT];
    private int contractCount = 0;
    private int loanCount = 0;
    private int requestCount = 0;

    public LoanTerms() {
        for (int i = 0; i < INPUT_LIMIT; i++) {
            inputs[i] = new Input();
        }
    }

    public int unit(int sign) throws IllegalStateException, IllegalArgumentException {
        if (pad.size >= PAD_LIMIT) {
            throw new IllegalStateException("the pad is full");
        }
        if (sign < FIRST_SIGN || sign > LAST_SIGN) {
            throw new IllegalArgumentException("no sign");
        }
        pad.add(sign);
        return pad.size;
    }

    public int read() throws IllegalStateException {
        if (contractCount >= CONTRACT_LIMIT) {
            throw new IllegalStateException("there are eight contracts");
        }
        Reader reader = new Reader(pad);
        Contract contract = reader.readContract();
        pad.clear();
        if (contract == null) {
            return -1 - reader.place;
        }
        contracts[contractCount] = contract;
        contractCount++;
        return contractCount - 1;
    }

    public int terms(int contract) throws IndexOutOfBoundsException {
        return contractOf(contract).size;
    }

    public int written(int contract, int i) throws IndexOutOfBoundsException {
        return signOrSize(contractOf(contract).text, i);
    }

    public int input(int name, int hour, int v)
            throws IndexOutOfBoundsException, IllegalStateException, IllegalArgumentException {
        Input input = inputOf(name);
        if (input.size >= INPUT_ROW_LIMIT) {
            throw new IllegalStateException("the input has 60 rows");
        }
        if (!isHour(hour) || hour <= input.lastHour() || v < 0 || v > LAST_VALUE) {
            throw new IllegalArgumentException("hour or value");
        }
        input.add(hour, v);
        return input.size;
    }

    public void fails(int name, int from, int to) throws IndexOutOfBoundsException, IllegalArgumentException {
        Input input = inputOf(name);
        if (!isHour(from) || !isHour(to) || to < from) {
            throw new IllegalArgumentException("hours");
        }
        input.failsFrom = from;
        input.failsTo = to;
    }

    public int loan(int contract, int thing, int from, int to)
            throws IndexOutOfBoundsException, IllegalStateException, IllegalArgumentException {
        Contract under = contractOf(contract);
        refuseNoThing(thing);
        if (loanCount >= LOAN_LIMIT) {
            throw new IllegalStateException("there are 20 loans");
        }
        refuseNoDays(from, to);
        Span span = new Span(thing, from, to);
        if (clashesWithLoan(span, NONE)) {
            return NONE;
        }
        loans[loanCount] = new Loan(under, span);
        loanCount++;
        return loanCount - 1;
    }

    public boolean shield(int loan, boolean on) throws IndexOutOfBoundsException {
        Loan held = loanOf(loan);
        boolean changed = held.shielded != on;
        held.shielded = on;
        return changed;
    }

    public int ask(int loan, int hour) throws IndexOutOfBoundsException, IllegalArgumentException {
        Loan held = loanOf(loan);
        refuseNoHour(hour);
        if (!held.span.hasDay(hour / DAY_HOURS)) {
            return NONE;
        }
        int answer = 0;
        for (int term = 0; term < held.contract.size; term++) {
            int state = stateOf(held.contract.termAt(term), held, hour, 0);
            if (state == GOOD) {
                held.forget(term);
            } else if (state == BROKEN) {
                held.tell(hour, term);
                answer = answer == 0 ? 1 + term : answer;
            }
        }
        return answer;
    }

    public int open(int loan, int hour, int k) throws IndexOutOfBoundsException, IllegalArgumentException {
        Loan held = loanOf(loan);
        if (k < 0) {
            throw new IndexOutOfBoundsException("k is below 0");
        }
        refuseNoHour(hour);
        int ahead = 0;
        for (int term = 0; term < held.contract.size; term++) {
            if (stateOf(held.contract.termAt(term), held, hour, 0) == OPEN) {
                if (ahead == k) {
                    return term;
                }
                ahead++;
            }
        }
        return NONE;
    }

    public int told(int loan, int k, int what) throws IndexOutOfBoundsException {
        Loan held = loanOf(loan);
        if (what < 0 || what > 1 || k < -1 || k >= held.toldSize) {
            throw new IndexOutOfBoundsException("no such place");
        }
        if (k == -1) {
            return held.toldSize;
        }
        return what == 0 ? held.toldHours[k] : held.toldTerms[k];
    }

    public int extend(int loan, int to, int day) throws IndexOutOfBoundsException, IllegalArgumentException {
        Loan held = loanOf(loan);
        if (!isDay(to) || !isDay(day)) {
            throw new IllegalArgumentException("days");
        }
        if (day > held.span.last) {
            return 1;
        }
        if (to <= held.span.last) {
            return 2;
        }
        Span longer = new Span(held.span.thing, held.span.first, to);
        if (clashesWithLoan(longer, loan)) {
            return 3;
        }
        held.span = longer;
        return 0;
    }

    public int request(int thing, int from, int to)
            throws IndexOutOfBoundsException, IllegalStateException, IllegalArgumentException {
        refuseNoThing(thing);
        if (requestCount >= REQUEST_LIMIT) {
            throw new IllegalStateException("there are 30 requests");
        }
        refuseNoDays(from, to);
        requests[requestCount] = new Span(thing, from, to);
        requestCount++;
        return requestCount - 1;
    }

    public int clash(int k, int which) throws IndexOutOfBoundsException {
        if (k < 0 || which < 0 || which > 1) {
            throw new IndexOutOfBoundsException("no such place");
        }
        int ahead = 0;
        for (int lower = 0; lower < requestCount; lower++) {
            for (int other = lower + 1; other < requestCount + loanCount; other++) {
                if (areClashing(spanAt(lower), spanAt(other))) {
                    if (ahead == k) {
                        return which == 0 ? lower : numberAt(other);
                    }
                    ahead++;
                }
            }
        }
        return NONE;
    }

    public int days(int loan) throws IndexOutOfBoundsException {
        return loanOf(loan).span.length();
    }

    public int fee(int loan) throws IndexOutOfBoundsException {
        return loanOf(loan).price();
    }

    public int letter(int loan, int i) throws IndexOutOfBoundsException {
        Loan held = loanOf(loan);
        letterRow.clear();
        letterRow.add('#');
        letterRow.addNumber(loan);
        letterRow.add('@');
        letterRow.addNumber(held.span.thing);
        letterRow.add(':');
        letterRow.addNumber(held.span.first);
        letterRow.add('-');
        letterRow.addNumber(held.span.last);
        letterRow.add('=');
        letterRow.addNumber(held.price());
        for (int k = 0; k < held.toldSize; k++) {
            letterRow.add('!');
            letterRow.addNumber(held.toldTerms[k]);
        }
        return signOrSize(letterRow, i);
    }

    public int count(int what) throws IndexOutOfBoundsException {
        switch (what) {
            case 0:
                return pad.size;
            case 1:
                return contractCount;
            case 2:
                return loanCount;
            case 3:
                return requestCount;
            case 4:
                return inputRows();
            default:
                throw new IndexOutOfBoundsException("nothing that is counted");
        }
    }

    private int inputRows() {
        int rows = 0;
        for (int i = 0; i < INPUT_LIMIT; i++) {
            rows += inputOf(i).size;
        }
        return rows;
    }

    private Contract contractOf(int number) {
        Contract found = number >= 0 && number < CONTRACT_LIMIT ? contracts[number] : null;
        if (found == null) {
            throw new IndexOutOfBoundsException("no such contract");
        }
        return found;
    }

    private Input inputOf(int number) {
        Input found = number >= 0 && number < INPUT_LIMIT ? inputs[number] : null;
        if (found == null) {
            throw new IndexOutOfBoundsException("no such input");
        }
        return found;
    }

    private Loan loanOf(int number) {
        Loan found = number >= 0 && number < LOAN_LIMIT ? loans[number] : null;
        if (found == null) {
            throw new IndexOutOfBoundsException("no such loan");
        }
        return found;
    }

    /** The requests and, behind them, the loans, as one row; null outside of it. */
    private Span spanAt(int place) {
        if (place >= 0 && place < requestCount) {
            return requests[place];
        }
        int loan = place - requestCount;
        return loan >= 0 && loan < loanCount ? loanOf(loan).span : null;
    }

    /** The number that a clash tells of a place in that row. */
    private int numberAt(int place) {
        return place < requestCount ? place : LOAN_OFFSET + place - requestCount;
    }

    private boolean clashesWithLoan(Span span, int itself) {
        for (int i = 0; i < loanCount; i++) {
            if (i != itself && areClashing(span, loanOf(i).span)) {
                return true;
            }
        }
        return false;
    }

    private static boolean areClashing(Span one, Span other) {
        return one != null && other != null && one.thing == other.thing
                && one.first <= other.last && other.first <= one.last;
    }

    private static int signOrSize(Row row, int i) {
        if (i < -1 || i >= row.size) {
            throw new IndexOutOfBoundsException("no such sign");
        }
        return i == -1 ? row.size : row.signAt(i);
    }

    private static boolean isHour(int hour) {
        return hour >= 0 && hour <= LAST_HOUR;
    }

    private static boolean isDay(int day) {
        return day >= 0 && day <= LAST_DAY;
    }

    private static void refuseNoHour(int hour) {
        if (!isHour(hour)) {
            throw new IllegalArgumentException("no hour");
        }
    }

    private static void refuseNoDays(int from, int to) {
        if (!isDay(from) || !isDay(to) || to < from) {
            throw new IllegalArgumentException("days");
        }
    }

    private static void refuseNoThing(int thing) {
        if (thing < 0 || thing >= THING_LIMIT) {
            throw new IndexOutOfBoundsException("no such thing");
        }
    }

    private int stateOf(Node node, Loan loan, int hour, int level) {
        if (node == null || level > LEVEL_LIMIT) {
            return OPEN;
        }
        switch (node.kind) {
            case '!':
                return turnedRound(stateOf(node.inner, loan, hour, level + 1));
            case '|':
            case '&':
                return stateOfGroup(node, loan, hour, level);
            default:
                return stateOfName(node, loan, hour);
        }
    }

    /** An open item ends the look at once, as nothing further right may be looked at then. */
    private int stateOfGroup(Node group, Loan loan, int hour, int level) {
        int goesOn = group.kind == '|' ? BROKEN : GOOD;
        for (Node item = group.inner; item != null; item = item.next) {
            int state = stateOf(item, loan, hour, level + 1);
            if (state != goesOn) {
                return state;
            }
        }
        return goesOn;
    }

    private int stateOfName(Node node, Loan loan, int hour) {
        if (node.name == 'y') {
            return node.compared(hour / DAY_HOURS - loan.span.first);
        }
        if (node.name == 'z') {
            return node.compared(loan.shielded ? 1 : 0);
        }
        int value = inputOf(node.name - 'a').valueAt(hour);
        return value == NONE ? OPEN : node.compared(value);
    }

    private static int turnedRound(int state) {
        if (state == OPEN) {
            return OPEN;
        }
        return state == GOOD ? BROKEN : GOOD;
    }

    /** A row of signs; what does not fit is left out, so that no index leaves the array. */
    private static final class Row {
        final int[] signs = new int[ROW_LIMIT];
        int size = 0;

        void clear() {
            size = 0;
        }

        void add(int sign) {
            if (size < ROW_LIMIT) {
                signs[size] = sign;
                size++;
            }
        }

        void addNumber(int number) {
            int end = size + 1;
            for (int rest = number / 10; rest > 0; rest /= 10) {
                end++;
            }
            if (end > ROW_LIMIT) {
                return;
            }
            int rest = number;
            for (int i = end - 1; i >= size; i--) {
                signs[i] = '0' + rest % 10;
                rest /= 10;
            }
            size = end;
        }

        /** 0, which is no sign, outside of the row. */
        int signAt(int i) {
            return i >= 0 && i < size ? signs[i] : 0;
        }
    }

    /** A bit, or two or more of them under one joint; its kind is the sign that makes it. */
    private static final class Node {
        final int kind;
        final int name;
        final int number;
        final Node inner;
        Node next = null;

        Node(int kind, Node inner) {
            this.kind = kind;
            this.name = 0;
            this.number = 0;
            this.inner = inner;
        }

        Node(int kind, int name, int number) {
            this.kind = kind;
            this.name = name;
            this.number = number;
            this.inner = null;
        }

        int compared(int value) {
            boolean holds = kind == '<' ? value < number : kind == '>' ? value > number : value == number;
            return holds ? GOOD : BROKEN;
        }
    }

    private static final class Contract {
        final Node[] roots = new Node[TERM_LIMIT];
        final Row text = new Row();
        int size = 0;

        void add(Node term) {
            if (size < TERM_LIMIT) {
                roots[size] = term;
                size++;
                write(term, 0);
                text.add(';');
            }
        }

        Node termAt(int term) {
            return term >= 0 && term < TERM_LIMIT ? roots[term] : null;
        }

        private void write(Node node, int level) {
            if (node == null || level > LEVEL_LIMIT) {
                return;
            }
            if (node.kind == '!') {
                text.add('!');
                write(node.inner, level + 1);
            } else if (node.kind == '|' || node.kind == '&') {
                writeGroup(node, level);
            } else {
                text.add(node.name);
                text.add(node.kind);
                text.addNumber(node.number);
            }
        }

        private void writeGroup(Node group, int level) {
            int ahead = '(';
            for (Node item = group.inner; item != null; item = item.next) {
                text.add(ahead);
                write(item, level + 1);
                ahead = group.kind;
            }
            text.add(')');
        }
    }

    /** Reads a row from the left; a method that answers null leaves its place at the wrong sign. */
    private static final class Reader {
        final Row row;
        int place = 0;

        Reader(Row row) {
            this.row = row;
        }

        Contract readContract() {
            Contract contract = new Contract();
            for (int left = TERM_LIMIT - 1; left >= 0; left--) {
                Node term = readGroup('|', 0);
                if (term == null) {
                    return null;
                }
                contract.add(term);
                if (place >= row.size) {
                    return contract;
                }
                if (sign() != ';' || left == 0) {
                    return null;
                }
                place++;
            }
            return null;
        }

        /** A single item stands for itself, which leaves out the brackets that are not needed. */
        private Node readGroup(int joint, int brackets) {
            Node first = readItem(joint, brackets);
            if (first == null || sign() != joint) {
                return first;
            }
            Node last = first;
            for (int items = 1; items < PAD_LIMIT && sign() == joint; items++) {
                place++;
                Node item = readItem(joint, brackets);
                if (item == null) {
                    return null;
                }
                last.next = item;
                last = item;
            }
            return new Node(joint, first);
        }

        private Node readItem(int joint, int brackets) {
            return joint == '|' ? readGroup('&', brackets) : readBit(brackets, 0);
        }

        private Node readBit(int brackets, int nots) {
            if (sign() == '!' && nots < NOT_LIMIT) {
                place++;
                Node turned = readBit(brackets, nots + 1);
                return turned == null ? null : new Node('!', turned);
            }
            if (sign() == '(' && brackets < BRACKET_LIMIT) {
                place++;
                Node term = readGroup('|', brackets + 1);
                if (term == null || sign() != ')') {
                    return null;
                }
                place++;
                return term;
            }
            return readName();
        }

        private Node readName() {
            int name = sign();
            if (!isName(name)) {
                return null;
            }
            place++;
            int kind = sign();
            if (kind != '<' && kind != '=' && kind != '>') {
                return null;
            }
            place++;
            if (!isDigit(sign())) {
                return null;
            }
            return new Node(kind, name, readNumber());
        }

        private int readNumber() {
            int number = 0;
            for (int digits = 0; digits < DIGIT_LIMIT && isDigit(sign()); digits++) {
                number = 10 * number + (sign() - '0');
                place++;
            }
            return number;
        }

        private int sign() {
            return row.signAt(place);
        }

        private static boolean isName(int sign) {
            return (sign >= 'a' && sign <= 'h') || sign == 'y' || sign == 'z';
        }

        private static boolean isDigit(int sign) {
            return sign >= '0' && sign <= '9';
        }
    }

    /** The rows of one input, and the hours at which it fails. */
    private static final class Input {
        final int[] hours = new int[INPUT_ROW_LIMIT];
        final int[] values = new int[INPUT_ROW_LIMIT];
        int size = 0;
        int failsFrom = 0;
        int failsTo = NONE;

        void add(int hour, int value) {
            if (size < INPUT_ROW_LIMIT) {
                hours[size] = hour;
                values[size] = value;
                size++;
            }
        }

        int lastHour() {
            return size > 0 ? hours[size - 1] : NONE;
        }

        /** NONE if it fails at that hour or has no row yet. */
        int valueAt(int hour) {
            if (hour >= failsFrom && hour <= failsTo) {
                return NONE;
            }
            for (int i = size - 1; i >= 0; i--) {
                if (hours[i] <= hour) {
                    return values[i];
                }
            }
            return NONE;
        }
    }

    /** A thing for days, both ends with them. */
    private static final class Span {
        final int thing;
        final int first;
        final int last;

        Span(int thing, int first, int last) {
            this.thing = thing;
            this.first = first;
            this.last = last;
        }

        boolean hasDay(int day) {
            return day >= first && day <= last;
        }

        int length() {
            return last - first + 1;
        }
    }

    private static final class Loan {
        private static final int DAY_PRICE = 5;
        private static final int TERM_PRICE = 20;
        private static final int BARE_PRICE = 300;
        private static final int TOLD_PRICE = 50;

        final Contract contract;
        final int[] toldHours = new int[TOLD_LIMIT];
        final int[] toldTerms = new int[TOLD_LIMIT];
        // Terms that were told and have not been good since.
        final boolean[] standing = new boolean[TERM_LIMIT];
        Span span;
        boolean shielded = false;
        int toldSize = 0;

        Loan(Contract contract, Span span) {
            this.contract = contract;
            this.span = span;
        }

        void forget(int term) {
            if (term >= 0 && term < TERM_LIMIT) {
                standing[term] = false;
            }
        }

        void tell(int hour, int term) {
            if (term < 0 || term >= TERM_LIMIT || standing[term] || toldSize >= TOLD_LIMIT) {
                return;
            }
            standing[term] = true;
            toldHours[toldSize] = hour;
            toldTerms[toldSize] = term;
            toldSize++;
        }

        int price() {
            int price = DAY_PRICE * span.length() + TERM_PRICE * contract.size + TOLD_PRICE * toldSize;
            return shielded ? price : price + BARE_PRICE;
        }
    }
}
