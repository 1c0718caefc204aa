/** The objects that refused calls are made on: one with something of everything, and one full of each. */
abstract class States extends Checks {
    /** Something of everything, so that a refused call has something to spoil. */
    static LoanTerms busy() {
        LoanTerms x = having("a=1;b=2&z=0;y<2|c=3;a<9", "z=1");
        x.loan(0, 3, 2, 5);
        x.loan(1, 3, 8, 9);
        x.shield(1, true);
        x.request(3, 5, 8);
        x.request(4, 0, 9);
        x.request(3, 0, 5);
        x.input(0, 40, 1);
        x.input(0, 60, 2);
        x.input(1, 50, 2);
        x.fails(1, 70, 90);
        x.ask(0, 60);
        put(x, "a=1|b=2");
        return x;
    }

    static LoanTerms fullPad() {
        LoanTerms x = new LoanTerms();
        put(x, "a<1&".repeat(19) + "b<12");
        return x;
    }

    static LoanTerms fullContracts() {
        LoanTerms x = having("a<1", "a<2", "a<3", "a<4", "a<5", "a<6", "a<7", "a<8");
        put(x, "b<1");
        return x;
    }

    static LoanTerms fullInput() {
        LoanTerms x = having("a=60");
        x.loan(0, 0, 0, 100000);
        for (int n = 1; n <= 60; n++) x.input(0, 2 * n, n);
        return x;
    }

    static LoanTerms fullLoans() {
        LoanTerms x = having("z=1");
        for (int n = 0; n < 20; n++) x.loan(0, 3, 10 * n, 10 * n + 5);
        return x;
    }

    static LoanTerms fullRequests() {
        LoanTerms x = having("z=1");
        for (int n = 0; n < 30; n++) x.request(3, n, n + 1);
        return x;
    }

    /** Six terms are told at each of 16 hours, and four of them at another one. */
    static LoanTerms fullTold() {
        LoanTerms x = having("z=1;z=1;z=1;z=1;z=1;z=1");
        x.loan(0, 0, 0, 9);
        for (int hour = 0; hour < 17; hour++) tellAndMend(x, hour);
        return x;
    }

    static void tellAndMend(LoanTerms x, int hour) {
        x.ask(0, hour);
        x.shield(0, true);
        x.ask(0, hour);
        x.shield(0, false);
    }
}
