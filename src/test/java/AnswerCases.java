import java.util.function.Supplier;

/** The sentences of promises 9 to 22, a test for each. */
final class AnswerCases {
    /** With the default sum, the least premium in month 0 that keeps it unlapsed for 120 months. */
    private static final int KEEPS_120 = 143707;

    private AnswerCases() {
    }

    static void run() {
        state();
        account();
        loan();
        arrears();
        deathSum();
        paid();
        charge();
        grace();
        corridor();
        corridorAge();
        corridorThrows();
        accountAt();
        accountAtMonth();
        accountAtThrows();
        accountFromStart();
        accountFromStartMonth();
        accountFromStartThrows();
        stateAt();
        stateAtMonth();
        stateAtThrows();
        wouldLapse();
        wouldLapseWithin();
        wouldLapseNone();
        wouldLapseThrows();
        needed();
        neededWithin();
        neededReturns();
        neededThrows();
    }

    private static void state() {
        Sentence.of(9, "Returns the state, 0 to 3.");
        FlexiblePolicy p = Made.small(508);
        Check.due("in force", p.state(), 0);
        p.close(1);
        Check.due("in grace", p.state(), 1);
        p.tell(1, 0, 508);
        Check.due("in grace with arrears of 1", p.state(), 1);
        p.tell(1, 0, 1);
        Check.due("in force again", p.state(), 0);
        p.close(4);
        Check.due("lapsed", p.state(), 2);
        p.tell(5, 4, 2000000);
        Check.due("revived", p.state(), 0);
        p.tell(5, 5, 1);
        Check.due("ended", p.state(), 3);
        p.strike(4);
        Check.due("the death struck", p.state(), 0);
    }

    private static void account() {
        Sentence.of(10, "Returns the account.");
        FlexiblePolicy p = Made.small(0);
        Check.due("none", p.account(), 0);
        p.tell(0, 0, 1);
        Check.due("1", p.account(), 1);
        p.tell(0, 3, 1);
        Check.due("none again", p.account(), 0);
        FlexiblePolicy most = new FlexiblePolicy();
        most.begin(18, 100000, 1);
        for (int i = 0; i < 60; i++) {
            most.tell(0, 0, 2000000);
        }
        Check.due("all that can be told", most.account(), 120000000);
        Check.due("its death sum", most.deathSum(), 300000000);
        Check.due("its charge", most.charge(), 18500);
        most.close(1);
        // 119981500: (3 * 1000000 + 4 * 118981500) / 1200.
        Check.due("with its interest", most.account(), 120380605);
        for (int kind = 0; kind <= 1; kind++) {
            greatest(kind);
        }
    }

    /** The greatest account and the greatest loan, through 120 months, beside long numbers. */
    private static void greatest(int kind) {
        for (int loans = 0; loans <= 30; loans += 30) {
            FlexiblePolicy p = new FlexiblePolicy();
            PlainPolicy plain = new PlainPolicy();
            p.begin(18, 50000000, kind);
            plain.begin(18, 50000000, kind);
            for (int i = 0; i < 60; i++) {
                int act = i < 60 - loans ? 0 : 1;
                p.tell(0, act, 2000000);
                plain.tell(0, act, 2000000);
            }
            for (int m = 0; m <= 120; m += 24) {
                String which = loans + " loans, kind " + kind + ", month " + m;
                Check.due(which + ", account", p.account(), plain.account());
                Check.due(which + ", loan", p.loan(), plain.loan());
                Check.due(which + ", death sum", p.deathSum(), plain.deathSum());
                Check.due(which + ", charge", p.charge(), plain.charge());
                Check.due(which + ", within 120", p.wouldLapse(120), plain.wouldLapse(120));
                Check.due(which + ", closed", m == 120 ? 120 : p.close(24), m == 120 ? 120 : plain.close(24));
            }
        }
    }

    private static void loan() {
        Sentence.of(11, "Returns the loan.");
        FlexiblePolicy p = Made.small(1000);
        Check.due("none", p.loan(), 0);
        p.tell(0, 1, 1001);
        Check.due("one that is not done", p.loan(), 0);
        p.tell(0, 1, 1);
        Check.due("1", p.loan(), 1);
        p.tell(0, 1, 999);
        Check.due("as great as the account", p.loan(), 1000);
        p.close(3);
        Check.due("lapsed", p.loan(), 0);
    }

    private static void arrears() {
        Sentence.of(12, "Returns the arrears.");
        FlexiblePolicy p = Made.small(508);
        Check.due("none", p.arrears(), 0);
        p.close(1);
        Check.due("a charge", p.arrears(), 509);
        p.tell(1, 0, 508);
        Check.due("all but 1 paid", p.arrears(), 1);
        p.close(2);
        Check.due("lapsed with two more", p.arrears(), 1 + 509 + 509);
        p.tell(3, 4, 1018);
        Check.due("a revival too small by 1", p.arrears(), 1019);
        p.tell(3, 4, 1019);
        Check.due("revived", p.arrears(), 0);
    }

    private static void deathSum() {
        Sentence.of(13, "Returns the death sum; 0 if the policy is ended.");
        FlexiblePolicy p = Made.small(0);
        Check.due("in force", p.deathSum(), 100000);
        p.tell(0, 5, 1);
        Check.due("ended", p.deathSum(), 0);
        p.close(1);
        Check.due("ended in the month before", p.deathSum(), 0);
        p.strike(0);
        Check.due("the death struck, in grace", p.deathSum(), 100000);
        FlexiblePolicy q = new FlexiblePolicy();
        q.begin(40, 100000, 1);
        q.tell(0, 0, 90000);
        q.tell(0, 5, 1);
        Check.due("ended, with an account, kind 1", q.deathSum(), 0);
    }

    private static void paid() {
        Sentence.of(14, "Returns what was paid at death, -1 if the policy is not ended.");
        FlexiblePolicy p = Made.small(0);
        Check.due("in force", p.paid(), -1);
        p.close(2);
        Check.due("in grace", p.paid(), -1);
        Check.due("told late", p.tell(1, 5, 1), true);
        Check.due("ended", p.paid(), 100000);
        p.strike(0);
        Check.due("the death struck", p.paid(), -1);
        p.close(1);
        Check.due("lapsed", p.paid(), -1);
        p.tell(3, 5, 1);
        Check.due("lapsed, no death any more", p.paid(), -1);
        p.tell(3, 4, 1530);
        Check.due("revived", p.paid(), -1);
        FlexiblePolicy nothing = Made.drowned();
        nothing.tell(24, 5, 1);
        Check.due("ended, and nothing to pay", nothing.paid(), 0);
        nothing.begin(30, 100000, 0);
        Check.due("begun anew", nothing.paid(), -1);
    }

    private static void charge() {
        Sentence.of(15, "Returns the charge that closing the present month would find, 0 if the policy is"
                + " lapsed or ended.");
        FlexiblePolicy p = Made.small(10001);
        p.tell(0, 0, 508);
        int charge = p.charge();
        Check.due("in force", charge, 508);
        p.close(1);
        // 10001 are left: 3 * 10001 / 1200.
        Check.due("closing found it", p.account(), 10026);
        FlexiblePolicy q = Made.unpaid(1);
        Check.due("in grace, without the arrears", q.charge(), 510);
        q.close(1);
        Check.due("in the last month of grace", q.charge(), 510);
        q.close(1);
        Check.due("lapsed", q.charge(), 0);
        q.tell(3, 4, 1530);
        Check.due("revived", q.charge(), 510);
        q.tell(3, 5, 1);
        Check.due("ended", q.charge(), 0);
        FlexiblePolicy year = new FlexiblePolicy();
        year.begin(30, 100000, 1);
        year.tell(0, 0, 20000);
        year.close(11);
        Check.due("month 11 is found at the age of 30", year.charge(), 510);
        year.close(1);
        Check.due("month 12 is found at the age of 31", year.charge(), 512);
    }

    private static void grace() {
        Sentence.of(16, "Returns how many months of grace there are, 0 if it is not in grace.");
        FlexiblePolicy p = Made.small(0);
        int[] graces = {0, 1, 2, 0, 0};
        for (int m = 0; m < graces.length; m++) {
            Check.due("month " + m, p.grace(), graces[m]);
            p.close(1);
        }
        FlexiblePolicy q = Made.unpaid(2);
        q.tell(2, 0, 1019);
        Check.due("with arrears of 1", q.grace(), 2);
        q.tell(2, 0, 1);
        Check.due("in force", q.grace(), 0);
        FlexiblePolicy ended = Made.unpaid(2);
        ended.tell(2, 5, 1);
        Check.due("ended out of grace", ended.grace(), 0);
        ended.strike(0);
        Check.due("the death struck", ended.grace(), 2);
    }

    private static void corridor() {
        Sentence.of(17, "Returns the corridor at an age.");
        FlexiblePolicy p = Made.busy();
        for (int age = 18; age <= 120; age++) {
            int want = age <= 40 ? 250 : Math.max(105, 450 - 5 * age);
            Check.due("at " + age, p.corridor(age), want);
        }
    }

    private static void corridorAge() {
        Sentence.of(17, "18 to 120");
        Check.due("18", new FlexiblePolicy().corridor(18), 250);
        Check.due("120", new FlexiblePolicy().corridor(120), 105);
        Made.refuse("17", Check.ARGUMENT, p -> p.corridor(17));
        Made.refuse("121", Check.ARGUMENT, p -> p.corridor(121));
    }

    private static void corridorThrows() {
        Sentence.of(17, "Throws `IllegalArgumentException` if age is out of range");
        Made.refuse("0", Check.ARGUMENT, p -> p.corridor(0));
        Made.refuse("-1", Check.ARGUMENT, p -> p.corridor(-1));
        Made.refuse("the lowest", Check.ARGUMENT, p -> p.corridor(Integer.MIN_VALUE));
        Made.refuse("the highest", Check.ARGUMENT, p -> p.corridor(Integer.MAX_VALUE));
        for (Supplier<FlexiblePolicy> sort : Made.sorts()) {
            FlexiblePolicy p = sort.get();
            Check.due("71, no age to begin with", p.corridor(71), 105);
        }
    }

    /** Lapsed in month 3, revived in month 5 with 70 left, in grace in month 6, paid, ended in month 7. */
    private static FlexiblePolicy ofAllStates() {
        FlexiblePolicy p = Made.lapsedSince(2);
        p.tell(5, 4, 2600);
        p.close(1);
        p.tell(6, 0, 5509);
        p.close(1);
        p.tell(7, 5, 1);
        p.close(2);
        return p;
    }

    private static final int[] STATES = {0, 1, 1, 2, 2, 2, 1, 0, 3, 3};
    /** 5000 and 70 less 509 are 4561, and 11 of interest come. */
    private static final int[] ACCOUNTS = {0, 0, 0, 0, 0, 0, 70, 4572, 4572, 4572};

    private static void accountAt() {
        Sentence.of(18, "Returns the account at the beginning of a month.");
        FlexiblePolicy p = ofAllStates();
        for (int m = 0; m < ACCOUNTS.length; m++) {
            Check.due("month " + m, p.accountAt(m), ACCOUNTS[m]);
        }
        FlexiblePolicy q = Made.small(5000);
        Check.due("ahead of the acts of month 0", q.accountAt(0), 0);
        q.close(1);
        q.tell(1, 3, 1000);
        Check.due("ahead of the acts of the present month", q.accountAt(1), 4502);
        q.close(1);
        Check.due("still, when it is closed", q.accountAt(1), 4502);
        Check.due("behind them", q.accountAt(2), 3000);
    }

    private static void accountAtMonth() {
        Sentence.of(18, "0 to the present month");
        for (int present : new int[] {0, 1, 23, 120}) {
            FlexiblePolicy p = Made.inMonth(present);
            int own = present == 0 ? 0 : p.account();
            Check.due("0 of " + present, p.accountAt(0), 0);
            Check.due(present + " of " + present, p.accountAt(present), own);
            Supplier<FlexiblePolicy> sort = () -> Made.inMonth(present);
            Made.refuse("behind " + present, sort, Check.ARGUMENT, q -> q.accountAt(present + 1));
        }
        Made.refuse("-1", Check.ARGUMENT, p -> p.accountAt(-1));
    }

    private static void accountAtThrows() {
        Sentence.of(18, "Throws `IllegalArgumentException` if month is out of range");
        Made.refuse("behind the present one", Check.ARGUMENT, p -> p.accountAt(p.month() + 1));
        Made.refuse("121", Check.ARGUMENT, p -> p.accountAt(121));
        Made.refuse("the lowest", Check.ARGUMENT, p -> p.accountAt(Integer.MIN_VALUE));
        Made.refuse("the highest", Check.ARGUMENT, p -> p.accountAt(Integer.MAX_VALUE));
        Made.refuse("one of before", AnswerCases::begunAnew, Check.ARGUMENT, p -> p.accountAt(1));
    }

    private static FlexiblePolicy begunAnew() {
        FlexiblePolicy p = Made.busy();
        p.begin(30, 100000, 0);
        return p;
    }

    private static void accountFromStart() {
        Sentence.of(19, "Returns the same, worked out month by month from the beginning on.");
        FlexiblePolicy p = ofAllStates();
        for (int m = 0; m < ACCOUNTS.length; m++) {
            Check.due("month " + m, p.accountFromStart(m), ACCOUNTS[m]);
        }
        for (Supplier<FlexiblePolicy> sort : Made.sorts()) {
            FlexiblePolicy q = sort.get();
            Check.thrownBy(() -> q.tell(0, 0, 900));
            for (int m = 0; m <= q.month(); m++) {
                Check.due("the same, month " + m, q.accountFromStart(m), q.accountAt(m));
            }
        }
    }

    private static void accountFromStartMonth() {
        Sentence.of(19, "0 to the present month");
        for (int present : new int[] {0, 1, 23, 120}) {
            FlexiblePolicy p = Made.inMonth(present);
            int own = present == 0 ? 0 : p.account();
            Check.due("0 of " + present, p.accountFromStart(0), 0);
            Check.due(present + " of " + present, p.accountFromStart(present), own);
            Supplier<FlexiblePolicy> sort = () -> Made.inMonth(present);
            Made.refuse("behind " + present, sort, Check.ARGUMENT, q -> q.accountFromStart(present + 1));
        }
        Made.refuse("-1", Check.ARGUMENT, p -> p.accountFromStart(-1));
    }

    private static void accountFromStartThrows() {
        Sentence.of(19, "Throws `IllegalArgumentException` if month is out of range");
        Made.refuse("behind the present one", Check.ARGUMENT, p -> p.accountFromStart(p.month() + 1));
        Made.refuse("121", Check.ARGUMENT, p -> p.accountFromStart(121));
        Made.refuse("the lowest", Check.ARGUMENT, p -> p.accountFromStart(Integer.MIN_VALUE));
        Made.refuse("the highest", Check.ARGUMENT, p -> p.accountFromStart(Integer.MAX_VALUE));
        Made.refuse("one of before", AnswerCases::begunAnew, Check.ARGUMENT, p -> p.accountFromStart(1));
    }

    private static void stateAt() {
        Sentence.of(20, "Returns the state at the beginning of a month.");
        FlexiblePolicy p = ofAllStates();
        for (int m = 0; m < STATES.length; m++) {
            Check.due("month " + m, p.stateAt(m), STATES[m]);
        }
        FlexiblePolicy q = Made.unpaid(2);
        q.tell(2, 0, 1020);
        Check.due("in force now", q.state(), 0);
        Check.due("in grace ahead of the premium", q.stateAt(2), 1);
        q.tell(0, 0, 510);
        Check.due("told late, in force", q.stateAt(1), 0);
        q.tell(0, 5, 1);
        Check.due("a death in month 0, the beginning of it", q.stateAt(0), 0);
        Check.due("a death in month 0, month 1", q.stateAt(1), 3);
    }

    private static void stateAtMonth() {
        Sentence.of(20, "0 to the present month");
        for (int present : new int[] {0, 1, 23, 120}) {
            FlexiblePolicy p = Made.inMonth(present);
            Check.due("0 of " + present, p.stateAt(0), 0);
            Check.due(present + " of " + present, p.stateAt(present), 0);
            Supplier<FlexiblePolicy> sort = () -> Made.inMonth(present);
            Made.refuse("behind " + present, sort, Check.ARGUMENT, q -> q.stateAt(present + 1));
        }
        Check.due("120 of 120, lapsed", Made.lapsedSince(117).stateAt(120), 2);
        Made.refuse("-1", Check.ARGUMENT, p -> p.stateAt(-1));
    }

    private static void stateAtThrows() {
        Sentence.of(20, "Throws `IllegalArgumentException` if month is out of range");
        Made.refuse("behind the present one", Check.ARGUMENT, p -> p.stateAt(p.month() + 1));
        Made.refuse("121", Check.ARGUMENT, p -> p.stateAt(121));
        Made.refuse("the lowest", Check.ARGUMENT, p -> p.stateAt(Integer.MIN_VALUE));
        Made.refuse("the highest", Check.ARGUMENT, p -> p.stateAt(Integer.MAX_VALUE));
        Made.refuse("one of before", AnswerCases::begunAnew, Check.ARGUMENT, p -> p.stateAt(1));
    }

    private static void wouldLapse() {
        Sentence.of(21, "Returns the first month in which the policy would be lapsed at the beginning, if"
                + " nothing more was told.");
        for (int closed = 0; closed <= 2; closed++) {
            FlexiblePolicy p = Made.unpaid(closed);
            Check.due("3, seen from " + closed, p.wouldLapse(120), 3);
        }
        Check.due("508 do not pay a month", Made.small(508).wouldLapse(120), 3);
        Check.due("509 do", Made.small(509).wouldLapse(120), 4);
        // 1017 less 509 are 508, and 1 of interest comes.
        Check.due("1016 pay one month", Made.small(1016).wouldLapse(120), 4);
        Check.due("1017 pay two", Made.small(1017).wouldLapse(120), 5);
        FlexiblePolicy p = Made.unpaid(2);
        p.tell(2, 0, 1019);
        Check.due("with arrears of 1", p.wouldLapse(120), 3);
        p.tell(2, 0, 1);
        Check.due("without arrears", p.wouldLapse(120), 5);
        String before = Check.all(p);
        p.wouldLapse(120);
        Check.due("asking changes nothing", Check.all(p).equals(before), true);
        p.close(3);
        Check.due("and so it comes", p.state(), 2);
    }

    private static void wouldLapseWithin() {
        Sentence.of(21, "how many months behind the present one are looked at, 1 to 120");
        int[] none = {-1, -1, 3, 3};
        for (int within = 1; within <= 4; within++) {
            Check.due("unpaid, within " + within, Made.unpaid(0).wouldLapse(within), none[within - 1]);
        }
        Check.due("1, the next one", Made.unpaid(2).wouldLapse(1), 3);
        Check.due("1, the one behind it", Made.unpaid(1).wouldLapse(1), -1);
        FlexiblePolicy p = new FlexiblePolicy();
        p.tell(0, 0, KEEPS_120 - 1);
        Check.due("120, the last one", p.wouldLapse(120), 120);
        Check.due("119, none", p.wouldLapse(119), -1);
        p.tell(0, 0, 1);
        Check.due("120, the one behind it", p.wouldLapse(120), -1);
        Made.closeAll(p, 120);
        Check.due("120, so it is not lapsed then", p.state(), 1);
        Check.due("but with the next", p.wouldLapse(1), 121);
        p.strike(1);
        Check.due("with a cent less it is", p.state(), 2);
        Made.refuse("0", Check.ARGUMENT, q -> q.wouldLapse(0));
        Made.refuse("121", Check.ARGUMENT, q -> q.wouldLapse(121));
    }

    private static void wouldLapseNone() {
        Sentence.of(21, "Returns the month, -1 if there is none of these, or if it is lapsed or ended now.");
        Check.due("none of these", Made.inMonth(0).wouldLapse(120), -1);
        Check.due("in month 120", Made.inMonth(120).wouldLapse(120), -1);
        FlexiblePolicy last = Made.inMonth(120);
        last.tell(120, 3, 2000000);
        last.tell(120, 3, last.account());
        Check.due("behind month 120", last.wouldLapse(3), 123);
        Check.due("behind month 120, within 2", last.wouldLapse(2), -1);
        for (int since = 0; since <= 2; since++) {
            Check.due("lapsed now", Made.lapsedSince(since).wouldLapse(1), -1);
            Check.due("lapsed now, within 120", Made.lapsedSince(since).wouldLapse(120), -1);
        }
        FlexiblePolicy ended = Made.unpaid(2);
        ended.tell(2, 5, 1);
        Check.due("ended now", ended.wouldLapse(120), -1);
        ended.strike(0);
        Check.due("the death struck", ended.wouldLapse(120), 3);
        FlexiblePolicy revived = Made.lapsedSince(0);
        revived.tell(3, 4, 1530);
        Check.due("revived", revived.wouldLapse(120), 6);
    }

    private static void wouldLapseThrows() {
        Sentence.of(21, "Throws `IllegalArgumentException` if within is out of range");
        Made.refuse("0", Check.ARGUMENT, p -> p.wouldLapse(0));
        Made.refuse("-1", Check.ARGUMENT, p -> p.wouldLapse(-1));
        Made.refuse("121", Check.ARGUMENT, p -> p.wouldLapse(121));
        Made.refuse("the lowest", Check.ARGUMENT, p -> p.wouldLapse(Integer.MIN_VALUE));
        Made.refuse("the highest", Check.ARGUMENT, p -> p.wouldLapse(Integer.MAX_VALUE));
        Check.due("lapsed, and in range", Made.lapsedSince(0).wouldLapse(1), -1);
        Check.due("ended, and in range", Made.ended().wouldLapse(120), -1);
    }

    private static void needed() {
        Sentence.of(22, "Returns the least premium in the present month, told now, with which the policy"
                + " would not be lapsed at the beginning of any of some months behind it.");
        int[] of0 = {0, 0, 509, 1017};
        int[] of2 = {1020, 1020, 1529, 2037};
        for (int within = 1; within <= 4; within++) {
            isLeast("unpaid", () -> Made.unpaid(0), within, of0[within - 1]);
            isLeast("in the last month of grace", () -> Made.unpaid(2), within, of2[within - 1]);
        }
        for (int less = 0; less <= 3; less++) {
            int repaid = 513 - less;
            isLeast("a part of the arrears", () -> lastMonthOfGrace(repaid), 1, less);
        }
        isLeast("a great sum", AnswerCases::greatSum, 36, greatSum().needed(36));
        isLeast("a loan above the account", Made::drowned, 36, Made.drowned().needed(36));
        FlexiblePolicy p = Made.unpaid(2);
        String before = Check.all(p);
        p.needed(36);
        Check.due("asking changes nothing", Check.all(p).equals(before), true);
    }

    /** Account 3010, loan 1996 less what is repaid, arrears 1018, charge 509. */
    private static FlexiblePolicy lastMonthOfGrace(int repaid) {
        FlexiblePolicy p = Made.heldBack();
        p.tell(1, 2, 1024);
        p.close(1);
        p.tell(2, 2, repaid);
        return p;
    }

    private static FlexiblePolicy greatSum() {
        FlexiblePolicy p = new FlexiblePolicy();
        p.begin(69, 50000000, 1);
        p.close(2);
        return p;
    }

    /** Told, it holds; with a cent less it does not. */
    private static void isLeast(String what, Supplier<FlexiblePolicy> sort, int within, int want) {
        FlexiblePolicy p = sort.get();
        Check.due(what + ", within " + within, p.needed(within), want);
        if (want > 0) {
            p.tell(p.month(), 0, want);
        }
        Check.due(what + ", within " + within + ", it holds", p.wouldLapse(within), -1);
        Check.due(what + ", within " + within + ", no more is needed", p.needed(within), 0);
        Made.closeAll(p, within);
        Check.due(what + ", within " + within + ", and so it comes", p.state() < 2, true);
        if (want == 0) {
            return;
        }
        FlexiblePolicy less = sort.get();
        if (want > 1) {
            less.tell(less.month(), 0, want - 1);
        }
        Check.due(what + ", within " + within + ", a cent less", less.wouldLapse(within) > 0, true);
        Made.closeAll(less, within);
        Check.due(what + ", within " + within + ", a cent less is lapsed", less.state(), 2);
    }

    private static void neededWithin() {
        Sentence.of(22, "how many months behind the present one, 1 to 36");
        Check.due("1", Made.unpaid(2).needed(1), 1020);
        Check.due("1, with the lapse behind it", Made.unpaid(1).needed(1), 0);
        Check.due("2, with the lapse in it", Made.unpaid(1).needed(2), 510);
        FlexiblePolicy p = Made.small(0);
        int needed = p.needed(36);
        p.tell(0, 0, needed - 1);
        Check.due("36, and so the lapse is behind it", p.wouldLapse(120), 36);
        Check.due("35", p.needed(35), 0);
        Check.due("36", p.needed(36), 1);
        p.tell(0, 0, 1);
        Check.due("36, with a cent more", p.needed(36), 0);
        Check.due("the lapse then", p.wouldLapse(120), 37);
        Check.due("36 behind month 120", Made.inMonth(120).needed(36), 0);
        Made.refuse("0", Check.ARGUMENT, q -> q.needed(0));
        Made.refuse("37", Check.ARGUMENT, q -> q.needed(37));
    }

    private static void neededReturns() {
        Sentence.of(22, "Returns the premium, 0 if none is needed; -1 if 2000000 is not enough, or if it is"
                + " lapsed or ended now.");
        Check.due("1 is needed", lastMonthOfGrace(512).needed(1), 1);
        Check.due("none is needed", lastMonthOfGrace(513).needed(1), 0);
        for (int more = -2; more <= 2; more++) {
            FlexiblePolicy p = sunk();
            // Its gap and one charge must be paid: with that it lapses no earlier than in 4 months.
            FlexiblePolicy paid = sunk();
            paid.tell(22, 0, 2000000);
            p.tell(22, 2, p.loan() - p.account() + paid.charge() - 2000000 - more);
            int want = 2000000 + more;
            Check.due(want + " would do", p.needed(3), want > 2000000 ? -1 : want);
            Check.due("none within 2", p.needed(2), 0);
        }
        for (int since = 0; since <= 2; since++) {
            Check.due("lapsed now", Made.lapsedSince(since).needed(1), -1);
            Check.due("lapsed now, within 36", Made.lapsedSince(since).needed(36), -1);
        }
        FlexiblePolicy ended = Made.unpaid(2);
        ended.tell(2, 5, 1);
        Check.due("ended now", ended.needed(1), -1);
        ended.strike(0);
        Check.due("the death struck", ended.needed(1), 1020);
        FlexiblePolicy told = Made.small(0);
        for (int i = 0; i < 60; i++) {
            told.tell(0, 3, 1);
        }
        Check.due("when no more can be told", told.needed(3), 509);
    }

    /** In force in month 22, with 40 millions in the account and a loan above it by more than two. */
    private static FlexiblePolicy sunk() {
        FlexiblePolicy p = new FlexiblePolicy();
        p.begin(70, 100000, 0);
        for (int i = 0; i < 20; i++) {
            p.tell(0, 0, 2000000);
            p.tell(0, 1, 2000000);
        }
        for (int m = 2; m <= 22; m += 2) {
            p.close(2);
            p.tell(m, 0, p.arrears());
        }
        return p;
    }

    private static void neededThrows() {
        Sentence.of(22, "Throws `IllegalArgumentException` if within is out of range");
        Made.refuse("0", Check.ARGUMENT, p -> p.needed(0));
        Made.refuse("-1", Check.ARGUMENT, p -> p.needed(-1));
        Made.refuse("37", Check.ARGUMENT, p -> p.needed(37));
        Made.refuse("the lowest", Check.ARGUMENT, p -> p.needed(Integer.MIN_VALUE));
        Made.refuse("the highest", Check.ARGUMENT, p -> p.needed(Integer.MAX_VALUE));
        Check.due("lapsed, and in range", Made.lapsedSince(0).needed(1), -1);
        Check.due("ended, and in range", Made.ended().needed(36), -1);
    }
}
