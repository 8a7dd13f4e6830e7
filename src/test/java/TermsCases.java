/**
 * The sentences of the terms, a test for each; where a sentence names a boundary, the last
 * value on each side of it is tried. The numbers are worked out by hand.
 */
final class TermsCases {
    private TermsCases() {
    }

    static void run() {
        calls512();
        toldLate();
        roundedDown();
        presentMonth();
        ageInMonth();
        firstSumAndKind();
        corridorAtAge();
        deathSumWithAccount();
        deathSumLapsed();
        paidAtDeath();
        states();
        beginningOfMonth0();
        closing();
        rate();
        settled();
        notSettled();
        interest();
        loanGrows();
        lapse();
        Sentence.saysNothing("A flexible life policy: an account that premiums fill, monthly charges by"
                + " the sum at risk, interest in bands, loans that hold back a part of it, a grace for"
                + " months that cannot be paid, lapse and revival with back charges, and a death sum"
                + " that never falls below a corridor.");
        Sentence.saysNothing("Ahead of the calls `begin`, `tell`, `strike`, `isDone`, `acts`, `close`,"
                + " `month` the interface says: ---- the policy.");
        Sentence.saysNothing("Ahead of the calls `state`, `account`, `loan`, `arrears`, `deathSum`,"
                + " `paid`, `charge`, `grace`, `corridor`, `accountAt`, `accountFromStart`, `stateAt`,"
                + " `wouldLapse`, `needed` the interface says: ---- what is told.");
    }

    private static void calls512() {
        Sentence.ofTerms(1, "An object is used for at most 512 calls after it has been made; what later"
                + " calls answer is free.");
        FlexiblePolicy p = new FlexiblePolicy();
        for (int i = 0; i < 127; i++) {
            p.begin(30, 100000, 0);
            p.tell(0, 0, 909);
            p.close(1);
            Check.due("call " + (4 * i + 4), p.account(), 401);
        }
        Check.due("call 509", p.tell(0, 3, 910), false);
        Check.due("call 510", p.close(3), 4);
        Check.due("call 511", p.strike(0), 0);
        Check.due("call 512", p.state(), 2);
    }

    private static void toldLate() {
        Sentence.ofTerms(3, "Premiums and other acts can be told late, for a month that is over; the"
                + " account is told from there on anew, and, as a second way, from the beginning.");
        FlexiblePolicy p = new FlexiblePolicy();
        p.tell(0, 0, 100000);
        p.close(3);
        Check.due("month 2", p.accountAt(2), 98512);
        Check.due("month 3", p.accountAt(3), 97765);
        Check.due("for the month just over", p.tell(2, 0, 1000), true);
        Check.due("its beginning stays", p.accountAt(2), 98512);
        Check.due("anew behind it", p.accountAt(3), 98768);
        Check.due("for the first month", p.tell(0, 0, 1000), true);
        Check.due("month 0 stays", p.accountAt(0), 0);
        Check.due("month 1 anew", p.accountAt(1), 100261);
        Check.due("month 2 anew", p.accountAt(2), 99520);
        Check.due("month 3 anew", p.accountAt(3), 99779);
        Check.due("the present account anew", p.account(), 99779);
        Check.due("for the present month", p.tell(3, 0, 7), true);
        Check.due("its beginning stays", p.accountAt(3), 99779);
        Check.due("the account is greater", p.account(), 99786);
        for (int m = 0; m <= 3; m++) {
            Check.due("the second way, month " + m, p.accountFromStart(m), p.accountAt(m));
        }
    }

    private static void roundedDown() {
        Sentence.ofTerms(13, "All amounts are whole numbers of cents; quotients are rounded down.");
        FlexiblePolicy p = new FlexiblePolicy();
        p.begin(41, 100000, 0);
        p.tell(0, 0, 40819);
        Check.due("40819 at 245 are 100006.55", p.deathSum(), 100006);
        p.tell(0, 0, 1);
        Check.due("40820 at 245 are 100009", p.deathSum(), 100009);
        p.begin(30, 109999, 0);
        Check.due("109999 at 10 are 10.9999", p.charge(), 510);
        p.begin(30, 110000, 0);
        Check.due("110000 at 10 are 11", p.charge(), 511);
        Check.due("399 at 3 are 0.9975", accountAfter(small(908, 0)), 399);
        Check.due("400 at 3 are 1", accountAfter(small(909, 0)), 401);
        Check.due("239 at 5 are 0.9958", loanAfter(small(2000, 239)), 239);
        Check.due("240 at 5 are 1", loanAfter(small(2000, 240)), 241);
    }

    private static void presentMonth() {
        Sentence.ofTerms(8, "Months are numbered from 0; the present month goes on until it is closed.");
        FlexiblePolicy p = new FlexiblePolicy();
        Check.due("the first", p.month(), 0);
        p.tell(0, 0, 5000);
        p.tell(0, 3, 100);
        p.strike(1);
        Check.due("it goes on", p.month(), 0);
        p.close(1);
        Check.due("closed", p.month(), 1);
        p.tell(1, 5, 1);
        Check.due("it goes on with a death", p.month(), 1);
        p.close(1);
        Check.due("closed after it", p.month(), 2);
    }

    private static void ageInMonth() {
        Sentence.ofTerms(15, "The policy has an age at its beginning, 30 at first; the age in a month is"
                + " that plus the month divided by 12.");
        FlexiblePolicy p = new FlexiblePolicy();
        p.tell(0, 0, 100000);
        p.close(11);
        Check.due("30 in month 11", p.charge(), 500 + (5000000 - p.account()) * 10L / 100000);
        p.close(1);
        Check.due("31 in month 12", p.charge(), 500 + (5000000 - p.account()) * 12L / 100000);
        FlexiblePolicy q = Made.inMonth(0);
        int[] accounts = new int[121];
        for (int m = 0; m <= 120; m++) {
            accounts[m] = q.accountAt(m);
            int years = m / 12;
            long sum = q.account() * (250L - 5 * years) / 100;
            Check.due("the corridor in month " + m, q.deathSum(), sum);
            long charge = 500 + (sum - q.account()) * (30 + 2 * years) / 100000;
            Check.due("the rate in month " + m, q.charge(), charge);
            if (m < 120) {
                q.close(1);
            }
        }
        q.tell(0, 0, 2000);
        q.strike(1);
        for (int m = 0; m <= 120; m++) {
            Check.due("told anew, at the age in month " + m, q.accountAt(m), accounts[m]);
        }
    }

    private static void firstSumAndKind() {
        Sentence.ofTerms(1, "It has a sum, 5000000 at first, and a kind, 0 or 1, 0 at first.");
        FlexiblePolicy p = new FlexiblePolicy();
        Check.due("the sum", p.deathSum(), 5000000);
        p.tell(0, 0, 2000000);
        Check.due("kind 0", p.deathSum(), 5000000);
        p.tell(0, 0, 1);
        Check.due("kind 0, above the corridor", p.deathSum(), 5000002);
        p.begin(30, 5000000, 1);
        p.tell(0, 0, 2000000);
        Check.due("kind 1", p.deathSum(), 7000000);
    }

    private static void corridorAtAge() {
        Sentence.ofTerms(17, "The corridor at an age is 250 hundredths up to 40, 5 less for each year"
                + " above, but at least 105.");
        int[] ages = {39, 40, 41, 42, 67, 68, 69, 70};
        int[] wants = {250, 250, 245, 240, 115, 110, 105, 105};
        FlexiblePolicy p = new FlexiblePolicy();
        for (int i = 0; i < ages.length; i++) {
            Check.due("at " + ages[i], p.corridor(ages[i]), wants[i]);
            p.begin(ages[i], 100000, 0);
            p.tell(0, 0, 1000000);
            Check.due("in the death sum at " + ages[i], p.deathSum(), wants[i] * 10000);
        }
    }

    private static void deathSumWithAccount() {
        Sentence.ofTerms(13, "The death sum with an account a is, with the kind 0, the sum, with the kind"
                + " 1 the sum plus a; but at least a times the corridor, divided by 100.");
        deathSumOf(0, 0, 100000);
        deathSumOf(0, 39999, 100000);
        deathSumOf(0, 40000, 100000);
        deathSumOf(0, 40001, 100002);
        deathSumOf(1, 0, 100000);
        deathSumOf(1, 1, 100001);
        deathSumOf(1, 66666, 166666);
        deathSumOf(1, 66667, 166667);
        deathSumOf(1, 66668, 166670);
    }

    private static void deathSumOf(int kind, int account, int want) {
        FlexiblePolicy p = new FlexiblePolicy();
        p.begin(40, 100000, kind);
        if (account > 0) {
            p.tell(0, 0, account);
        }
        Check.due("kind " + kind + " with " + account, p.deathSum(), want);
    }

    private static void deathSumLapsed() {
        Sentence.ofTerms(13, "While the policy is lapsed it is 0.");
        FlexiblePolicy p = Made.unpaid(2);
        Check.due("the last month of grace", p.deathSum(), 100000);
        p.close(1);
        Check.due("lapsed", p.deathSum(), 0);
        p.close(4);
        Check.due("still lapsed", p.deathSum(), 0);
        p.tell(7, 4, 2000000);
        Check.due("revived", p.deathSum() > 100000, true);
        FlexiblePolicy q = new FlexiblePolicy();
        q.begin(30, 100000, 1);
        q.close(3);
        Check.due("lapsed, kind 1", q.deathSum(), 0);
    }

    private static void paidAtDeath() {
        Sentence.ofTerms(14, "What is paid at death is the death sum less the loan, but at least 0.");
        FlexiblePolicy p = Made.drowned();
        Check.due("in force", p.state(), 0);
        Check.due("the loan is above the death sum", p.loan() > p.deathSum() + 2, true);
        for (int more = -2; more <= 2; more++) {
            FlexiblePolicy q = Made.drowned();
            q.tell(24, 2, q.loan() - q.deathSum() - more);
            q.tell(24, 5, 1);
            Check.due("the loan is the death sum and " + more, q.paid(), Math.max(0, -more));
        }
        p.tell(24, 5, 1);
        Check.due("far above it", p.paid(), 0);
        FlexiblePolicy ended = Made.ended();
        Check.due("125000 less a loan of 20000", ended.paid(), 105000);
        toldLateAtAge(11, 250);
        toldLateAtAge(12, 245);
    }

    private static void toldLateAtAge(int month, int corridor) {
        FlexiblePolicy p = Made.inMonth(36);
        p.tell(month, 5, 1);
        Check.due("late, in month " + month, p.paid(), p.accountAt(month) * (long) corridor / 100);
    }

    private static void states() {
        Sentence.ofTerms(9, "States: in force (0), in grace (1), lapsed (2), ended by death (3).");
        FlexiblePolicy p = Made.small(0);
        int[] states = {0, 1, 1, 2, 2};
        for (int m = 0; m < states.length; m++) {
            Check.due("month " + m, p.state(), states[m]);
            p.close(1);
        }
        Check.due("ended", Made.ended().state(), 3);
    }

    private static void beginningOfMonth0() {
        Sentence.ofTerms(20, "At the beginning of month 0 it is in force, with the account, the loan and"
                + " the arrears 0.");
        FlexiblePolicy p = new FlexiblePolicy();
        beginsWithNothing("a new one", p);
        p.tell(0, 0, 5000);
        p.tell(0, 1, 100);
        p.tell(0, 5, 1);
        p.close(2);
        Check.due("the account ahead of its acts", p.accountAt(0), 0);
        Check.due("the state ahead of its acts", p.stateAt(0), 0);
        p.begin(30, 100000, 1);
        beginsWithNothing("one behind an ended one", p);
        p.close(4);
        p.begin(30, 100000, 1);
        beginsWithNothing("one behind a lapsed one", p);
    }

    private static void beginsWithNothing(String which, FlexiblePolicy p) {
        Check.due(which + ", state", p.state(), 0);
        Check.due(which + ", account", p.account(), 0);
        Check.due(which + ", loan", p.loan(), 0);
        Check.due(which + ", arrears", p.arrears(), 0);
        Check.due(which + ", accountAt", p.accountAt(0), 0);
        Check.due(which + ", stateAt", p.stateAt(0), 0);
    }

    private static void closing() {
        Sentence.ofTerms(15, "Closing a month, when it is in force or in grace: first the charge is found:"
                + " 500, plus the sum at risk, which is the death sum less the account, at least 0, times"
                + " the rate, divided by 100000;");
        int[] accounts = {0, 1, 10000, 10001, 20000, 20001};
        int[] charges = {510, 509, 509, 508, 508, 507};
        for (int i = 0; i < accounts.length; i++) {
            Check.due("with " + accounts[i], Made.small(accounts[i]).charge(), charges[i]);
        }
        FlexiblePolicy old = new FlexiblePolicy();
        old.begin(70, 100000, 0);
        old.tell(0, 0, 95239);
        Check.due("a sum at risk of 4761, the least one", old.charge(), 504);
        old.tell(0, 0, 1000000);
        Check.due("by the corridor alone, never less than 500", old.charge(), 500 + 54761 * 90 / 100000);
        FlexiblePolicy p = Made.small(0);
        int[] arrears = {0, 510, 1020, 1530, 1530};
        for (int m = 0; m < arrears.length; m++) {
            Check.due("what closing has found until month " + m, p.arrears(), arrears[m]);
            p.close(1);
        }
        FlexiblePolicy q = Made.ended();
        q.close(1);
        Check.due("none when ended", q.account(), 50000);
    }

    private static void rate() {
        Sentence.ofTerms(15, "the rate is 10 up to the age 30, and 2 more for each year above.");
        int[] ages = {18, 29, 30, 31, 32, 69, 70};
        int[] rates = {10, 10, 10, 12, 14, 88, 90};
        for (int i = 0; i < ages.length; i++) {
            FlexiblePolicy p = new FlexiblePolicy();
            p.begin(ages[i], 100000, 0);
            Check.due("at " + ages[i], p.charge(), 500 + rates[i]);
        }
        FlexiblePolicy old = new FlexiblePolicy();
        old.begin(70, 100000, 1);
        old.tell(0, 0, 200000);
        Made.closeAll(old, 119);
        Check.due("at 79", old.charge(), 608);
        old.close(1);
        Check.due("at 80", old.charge(), 610);
    }

    private static void settled() {
        Sentence.ofTerms(7, "If the free part is at least the charge and the arrears together, the account"
                + " falls by both, the arrears are 0, and a policy in grace is in force.");
        isAfterClosing("in force, 509 free of 509", small(509, 0), 0, 0, 0, 0);
        isAfterClosing("in force, 508 free of 509", small(508, 0), 1, 1, 509, 509);
        // 1000 stay, all of them held back: 2000 / 1200.
        isAfterClosing("with a loan, 509 free of 509", small(1509, 1000), 0, 0, 0, 1001);
        isAfterClosing("with a loan, 508 free of 509", small(1509, 1001), 1, 1, 509, 1511);
        // (2 * 1987) / 1200 and (2 * 1988 + 3 * 1017) / 1200.
        isAfterClosing("in grace, 1018 free of 1018", repaid(1025), 0, 0, 0, 1990);
        isAfterClosing("in grace, 1017 free of 1018", repaid(1024), 1, 2, 1018, 3010);
        isAfterClosing("in the last month of grace, 1527 free of 1527", repaidTwice(513), 0, 0, 0, 1485);
        isAfterClosing("in the last month of grace, 1526 free of 1527", repaidTwice(512), 2, 0, 1527, 0);
        FlexiblePolicy p = Made.heldBack();
        p.tell(1, 0, 508);
        p.tell(1, 2, 517);
        // 3005 - 2495 = 510 = 509 and the last cent of the arrears.
        isAfterClosing("a part of the arrears paid, 510 free of 510", p, 0, 0, 0, 2499);
        FlexiblePolicy q = Made.heldBack();
        q.tell(1, 0, 508);
        q.tell(1, 2, 516);
        isAfterClosing("a part of the arrears paid, 509 free of 510", q, 1, 2, 510, 3010);
    }

    private static void notSettled() {
        Sentence.ofTerms(7, "Otherwise the arrears grow by the charge; a policy in force is in grace, with"
                + " 1 month of grace; one that is in grace has one month of grace more, and with the third"
                + " one it is lapsed.");
        isAfterClosing("the first time", Made.unpaid(0), 1, 1, 510, 0);
        isAfterClosing("the second time", Made.unpaid(1), 1, 2, 1020, 0);
        isAfterClosing("the third time", Made.unpaid(2), 2, 0, 1530, 0);
        FlexiblePolicy p = Made.unpaid(2);
        p.tell(2, 0, 1019);
        isAfterClosing("the third time, with nearly all arrears paid", p, 2, 0, 511, 0);
        FlexiblePolicy q = Made.unpaid(2);
        q.tell(2, 0, 1020);
        isAfterClosing("with all arrears paid it is the first time again", q, 1, 1, 510, 0);
        isAfterClosing("and then the second", q, 1, 2, 1020, 0);
        isAfterClosing("and then the third", q, 2, 0, 1530, 0);
        FlexiblePolicy r = repaid(1025);
        r.close(1);
        isAfterClosing("settled by a closing it is the first time again", r, 1, 1, 509, 1993);
    }

    private static void interest() {
        Sentence.ofTerms(10, "Then, if it is not lapsed, interest comes: of the account, the part that is"
                + " held back, which is the lesser one of account and loan, earns 2 hundredths a year; of"
                + " the rest the first 1000000 earn 3 hundredths a year, what is above 4; a month's interest"
                + " is a twelfth of a year's: all three parts, each times its hundredths, are added up, and"
                + " divided by 1200 once.");
        Check.due("in grace", accountAfter(small(508, 0)), 509);
        Check.due("in grace for the second time", accountAfter(repaid(1024)), 3010);
        Check.due("lapsed", accountAfter(repaidTwice(512)), 0);
        interestIn("the first 1000000", 1000899, 0, 1000000, 2500);
        interestIn("299 above", 1001198, 0, 1000299, 2500);
        interestIn("300 above", 1001199, 0, 1000300, 2501);
        heldBack();
        addedUpOnce();
    }

    private static void heldBack() {
        Check.due("all 599 are held back", accountAfter(small(1108, 599)), 599);
        Check.due("all 600 are held back", accountAfter(small(1109, 600)), 601);
        FlexiblePolicy p = Made.drowned();
        int account = p.account();
        Check.due("the loan is more by a twentieth", p.loan() > account + account / 20, true);
        Check.due("no more than the account is held back", accountAfter(p), account + 2 * account / 1200);
        // 400 * 10 + 80 with 240 held back: 3 * 4080 - 240 = 10 * 1200.
        Check.due("the loan ahead of its growing", accountAfter(small(4589, 240)), 4090);
    }

    private static void addedUpOnce() {
        // 2 * 599 + 3 = 1201.
        Check.due("599 held back and 1 beside", accountAfter(small(1109, 599)), 601);
        // 2 * 599 = 1198.
        Check.due("599 held back and none beside", accountAfter(small(1108, 599)), 599);
        // 2 * 400 + 3 * 1000000 + 4 * 100 = 2501 * 1200.
        Check.due("three parts", accountAfter(great(1001399, 400)), 1003001);
        Check.due("three parts, a cent less", accountAfter(great(1001398, 400)), 1002999);
    }

    private static void loanGrows() {
        Sentence.ofTerms(11, "Then the loan grows by 5 hundredths a year, for a month, likewise (5 times"
                + " the loan, divided by 1200).");
        int[] loans = {1, 239, 240, 479, 480, 2399, 2400};
        int[] grown = {1, 239, 241, 480, 482, 2408, 2410};
        for (int i = 0; i < loans.length; i++) {
            Check.due("a loan of " + loans[i], loanAfter(small(5000, loans[i])), grown[i]);
        }
        Check.due("no loan", loanAfter(small(5000, 0)), 0);
        Check.due("in grace", loanAfter(repaid(1024)), 1996);
        Check.due("a great one", loanAfter(great(2000000, 1800000)), 1807500);
    }

    private static void lapse() {
        Sentence.ofTerms(7, "When it is lapsed, the account and the loan become 0 with the lapse, the"
                + " arrears stay, and closing does nothing more; when it is ended nothing changes any more.");
        FlexiblePolicy p = repaidTwice(512);
        Check.due("the account ahead of it", p.account(), 3010);
        Check.due("the loan ahead of it", p.loan(), 1484);
        isAfterClosing("lapsed", p, 2, 0, 1527, 0);
        Check.due("the loan", p.loan(), 0);
        p.close(24);
        Check.due("closed on, state", p.state(), 2);
        Check.due("closed on, arrears", p.arrears(), 1527);
        Check.due("closed on, account", p.account(), 0);
        FlexiblePolicy q = Made.heldBack();
        q.tell(1, 5, 1);
        q.close(24);
        q.tell(25, 0, 1000);
        q.tell(25, 2, 1);
        q.tell(2, 0, 1000);
        Check.due("ended, state", q.state(), 3);
        Check.due("ended, account", q.account(), 3005);
        Check.due("ended, loan", q.loan(), 3012);
        Check.due("ended, arrears", q.arrears(), 509);
        Check.due("ended, paid", q.paid(), 96988);
    }

    /** A small one with a loan taken at once. */
    private static FlexiblePolicy small(int premium, int loan) {
        FlexiblePolicy p = Made.small(premium);
        if (loan > 0) {
            p.tell(0, 1, loan);
        }
        return p;
    }

    /** With the sum 5000000: the charge of an account a little above 1000000 is 899. */
    private static FlexiblePolicy great(int premium, int loan) {
        FlexiblePolicy p = new FlexiblePolicy();
        p.tell(0, 0, premium);
        if (loan > 0) {
            p.tell(0, 1, loan);
        }
        return p;
    }

    private static FlexiblePolicy repaid(int amount) {
        FlexiblePolicy p = Made.heldBack();
        p.tell(1, 2, amount);
        return p;
    }

    /** In the last month of grace: account 3010, loan 1996 less the amount, arrears 1018. */
    private static FlexiblePolicy repaidTwice(int amount) {
        FlexiblePolicy p = repaid(1024);
        p.close(1);
        p.tell(2, 2, amount);
        return p;
    }

    private static int accountAfter(FlexiblePolicy p) {
        p.close(1);
        return p.account();
    }

    private static int loanAfter(FlexiblePolicy p) {
        p.close(1);
        return p.loan();
    }

    private static void interestIn(String what, int premium, int loan, int stays, int interest) {
        Check.due(what, accountAfter(great(premium, loan)), stays + interest);
    }

    private static void isAfterClosing(String what, FlexiblePolicy p, int state, int grace, int arrears, int account) {
        p.close(1);
        Check.due(what + ", state", p.state(), state);
        Check.due(what + ", grace", p.grace(), grace);
        Check.due(what + ", arrears", p.arrears(), arrears);
        Check.due(what + ", account", p.account(), account);
    }
}
