/**
 * The sentences of the terms that say when an act is done, a test for each: the last value that
 * does and the first that does not, and every state.
 */
final class ActCases {
    private ActCases() {
    }

    static void run() {
        inOrder();
        doneIfPossible();
        premiumStates();
        premiumArrears();
        premiumEndsGrace();
        loan();
        repayment();
        withdrawal();
        revival();
        revivalPays();
        deathStates();
        deathNoted();
    }

    private static void inOrder() {
        Sentence.ofTerms(3, "Acts happen in a month, in the order in which they are told for that month;");
        FlexiblePolicy p = Made.small(0);
        Check.due("a withdrawal ahead of the premium", p.tell(0, 3, 3000), false);
        Check.due("the premium", p.tell(0, 0, 3000), true);
        Check.due("a loan behind it", p.tell(0, 1, 1000), true);
        p.close(1);
        Check.due("month 1, all that is free", p.tell(1, 3, p.account() - p.loan()), true);
        Check.due("late, behind the loan: 2000 are free", p.tell(0, 3, 2001), false);
        Check.due("late, behind the loan", p.tell(0, 3, 1491), true);
        Check.due("the first one stays undone", p.isDone(0), false);
        Check.due("late, ahead of the acts of month 1", p.isDone(3), false);
        Check.due("another late one comes behind it: 509 are free", p.tell(0, 3, 510), false);
        Check.due("509 of it", p.tell(0, 3, 509), true);
        p.strike(5);
        Check.due("with one struck, the next one that is possible", p.isDone(6), true);
        Check.due("and none that is not", p.isDone(4), false);
    }

    private static void doneIfPossible() {
        Sentence.ofTerms(5, "each is done, if it is possible then, and is of no effect otherwise:");
        FlexiblePolicy p = Made.small(1000);
        String before = stand(p);
        p.tell(0, 1, 1001);
        p.tell(0, 2, 1);
        p.tell(0, 3, 1001);
        p.tell(0, 4, 2000000);
        same("in force", p, before);
        FlexiblePolicy grace = Made.heldBack();
        before = stand(grace);
        grace.tell(1, 1, 1);
        grace.tell(1, 2, 3013);
        grace.tell(1, 3, 1);
        grace.tell(1, 4, 2000000);
        same("in grace", grace, before);
        FlexiblePolicy lapsed = Made.lapsedSince(1);
        before = stand(lapsed);
        lapsed.tell(4, 0, 2000000);
        lapsed.tell(4, 1, 1);
        lapsed.tell(4, 2, 1);
        lapsed.tell(4, 3, 1);
        lapsed.tell(4, 4, 2029);
        lapsed.tell(4, 5, 1);
        same("lapsed", lapsed, before);
        FlexiblePolicy ended = Made.ended();
        before = stand(ended);
        for (int act = 0; act <= 5; act++) {
            ended.tell(0, act, 1000);
        }
        same("ended", ended, before);
    }

    private static String stand(FlexiblePolicy p) {
        return p.state() + " " + p.account() + " " + p.loan() + " " + p.arrears() + " " + p.deathSum()
                + " " + p.paid() + " " + p.charge() + " " + p.grace();
    }

    private static void same(String what, FlexiblePolicy p, String before) {
        Check.due(what + ", " + before + " and then " + stand(p), stand(p).equals(before), true);
        for (int number = p.acts() - 4; number < p.acts(); number++) {
            Check.due(what + ", act " + number, p.isDone(number), false);
        }
    }

    private static void premiumStates() {
        Sentence.ofTerms(3, "0 premium: not when lapsed or ended;");
        isDoneByState(0, 1, true, true, false, false);
        isDoneByState(0, 2000000, true, true, false, false);
        FlexiblePolicy p = Made.lapsedSince(0);
        Check.due("late, in the last month of grace", p.tell(2, 0, 1), true);
        Check.due("in the first lapsed month", p.tell(3, 0, 1), false);
        FlexiblePolicy q = Made.small(0);
        Check.due("ahead of the death of its month", q.tell(0, 0, 1), true);
        q.tell(0, 5, 1);
        Check.due("behind the death of its month", q.tell(0, 0, 1), false);
    }

    private static void premiumArrears() {
        Sentence.ofTerms(3, "first the arrears are paid from it, as far as it goes, the rest goes into the"
                + " account;");
        int[] amounts = {1, 1019, 1020, 1021, 2000000};
        int[] arrears = {1019, 1, 0, 0, 0};
        int[] accounts = {0, 0, 0, 1, 1998980};
        for (int i = 0; i < amounts.length; i++) {
            FlexiblePolicy p = Made.unpaid(2);
            p.tell(2, 0, amounts[i]);
            Check.due("arrears behind " + amounts[i], p.arrears(), arrears[i]);
            Check.due("account behind " + amounts[i], p.account(), accounts[i]);
        }
        FlexiblePolicy p = Made.small(0);
        p.tell(0, 0, 1);
        Check.due("without arrears all goes into the account", p.account(), 1);
    }

    private static void premiumEndsGrace() {
        Sentence.ofTerms(3, "if the arrears are 0 then, a policy in grace is in force.");
        int[] amounts = {1, 1019, 1020, 1021};
        int[] states = {1, 1, 0, 0};
        int[] graces = {2, 2, 0, 0};
        for (int i = 0; i < amounts.length; i++) {
            FlexiblePolicy p = Made.unpaid(2);
            p.tell(2, 0, amounts[i]);
            Check.due("state behind " + amounts[i], p.state(), states[i]);
            Check.due("grace behind " + amounts[i], p.grace(), graces[i]);
        }
        FlexiblePolicy p = Made.unpaid(2);
        p.tell(2, 0, 1019);
        p.tell(2, 0, 1);
        Check.due("by two premiums", p.state(), 0);
        FlexiblePolicy q = Made.heldBack();
        q.tell(1, 2, 3012);
        Check.due("a repayment leaves the arrears and the grace", q.state(), 1);
    }

    private static void loan() {
        Sentence.ofTerms(3, "1 loan: in force, and the amount is at most the free part, which is the"
                + " account less the loan, at least 0; the loan grows by it.");
        isDoneByState(1, 1, true, false, false, false);
        FlexiblePolicy p = Made.small(1000);
        Check.due("1001 of 1000", p.tell(0, 1, 1001), false);
        Check.due("400 of 1000", p.tell(0, 1, 400), true);
        Check.due("601 of 600", p.tell(0, 1, 601), false);
        Check.due("600 of 600", p.tell(0, 1, 600), true);
        Check.due("the loan", p.loan(), 1000);
        Check.due("the account", p.account(), 1000);
        Check.due("1 of 0", p.tell(0, 1, 1), false);
        aboveTheLoan(1);
        inGraceWithFreePart(1);
    }

    private static void repayment() {
        Sentence.ofTerms(3, "2 repayment: not when lapsed or ended, and the amount is at most the loan; the"
                + " loan falls by it.");
        isDoneByState(2, 1, true, true, false, false);
        FlexiblePolicy p = Made.small(1000);
        Check.due("1 of 0", p.tell(0, 2, 1), false);
        p.tell(0, 1, 700);
        Check.due("701 of 700", p.tell(0, 2, 701), false);
        Check.due("300 of 700", p.tell(0, 2, 300), true);
        Check.due("the loan", p.loan(), 400);
        Check.due("401 of 400", p.tell(0, 2, 401), false);
        Check.due("400 of 400", p.tell(0, 2, 400), true);
        Check.due("no loan", p.loan(), 0);
        Check.due("the account", p.account(), 1000);
        FlexiblePolicy grace = Made.heldBack();
        Check.due("in grace, 3013 of 3012", grace.tell(1, 2, 3013), false);
        Check.due("in grace, 3012 of 3012", grace.tell(1, 2, 3012), true);
    }

    private static void withdrawal() {
        Sentence.ofTerms(3, "3 withdrawal: in force, and the amount is at most the free part; the account"
                + " falls by it.");
        isDoneByState(3, 1, true, false, false, false);
        FlexiblePolicy p = Made.small(1000);
        Check.due("1001 of 1000", p.tell(0, 3, 1001), false);
        p.tell(0, 1, 400);
        Check.due("601 of 600", p.tell(0, 3, 601), false);
        Check.due("100 of 600", p.tell(0, 3, 100), true);
        Check.due("501 of 500", p.tell(0, 3, 501), false);
        Check.due("500 of 500", p.tell(0, 3, 500), true);
        Check.due("the account", p.account(), 400);
        Check.due("the loan", p.loan(), 400);
        Check.due("1 of 0", p.tell(0, 3, 1), false);
        p.tell(0, 2, 400);
        Check.due("all of it", p.tell(0, 3, 400), true);
        Check.due("nothing left", p.account(), 0);
        aboveTheLoan(3);
        inGraceWithFreePart(3);
    }

    /** With a loan above the account the free part is 0, and it is still when they are equal. */
    private static void aboveTheLoan(int act) {
        FlexiblePolicy p = Made.drowned();
        int gap = p.loan() - p.account();
        Check.due("a loan above the account", gap > 1, true);
        Check.due("1, with the loan far above the account", p.tell(24, act, 1), false);
        p.tell(24, 2, gap - 1);
        Check.due("1, with the loan above by 1", p.tell(24, act, 1), false);
        p.tell(24, 2, 1);
        Check.due("1, with the loan as great", p.tell(24, act, 1), false);
        p.tell(24, 2, 1);
        Check.due("2, with the loan less by 1", p.tell(24, act, 2), false);
        Check.due("1, with the loan less by 1", p.tell(24, act, 1), true);
    }

    private static void inGraceWithFreePart(int act) {
        FlexiblePolicy p = Made.small(508);
        p.close(1);
        Check.due("in grace 509 are free", p.account() - p.loan(), 509);
        Check.due("1 of them", p.tell(1, act, 1), false);
        p.tell(1, 0, 508);
        Check.due("1 of them, with arrears of 1", p.tell(1, act, 1), false);
        p.tell(1, 0, 1);
        Check.due("in force, 510 of them", p.tell(1, act, 510), false);
        Check.due("in force, 509 of them", p.tell(1, act, 509), true);
    }

    private static void revival() {
        Sentence.ofTerms(3, "4 revival: lapsed, with fewer than 24 months closed since it lapsed (the one"
                + " with whose closing it lapsed not counted), and the amount at least the arrears and 500"
                + " for each of these months;");
        isDoneByState(4, 2000000, false, false, true, false);
        int[] months = {0, 1, 2, 11, 22, 23};
        for (int since : months) {
            int due = 1530 + 500 * since;
            FlexiblePolicy p = Made.lapsedSince(since);
            Check.due(since + " months and a cent too little", p.tell(3 + since, 4, due - 1), false);
            Check.due(since + " months, just enough", p.tell(3 + since, 4, due), true);
        }
        FlexiblePolicy late = Made.lapsedSince(24);
        Check.due("24 months", late.tell(27, 4, 2000000), false);
        Check.due("late, for the month ahead of the lapse", late.tell(2, 4, 2000000), false);
        Check.due("late, for the 23rd month", late.tell(26, 4, 13030), true);
        lapsedLater();
        lapsedTwice();
        lateBetweenTwoLapses();
    }

    private static void lateBetweenTwoLapses() {
        FlexiblePolicy p = Made.lapsedSince(2);
        p.tell(5, 4, 2530);
        p.close(4);
        Check.due("lapsed for the second time", p.state(), 2);
        Check.due("late, a month since the first lapse, a cent too little", p.tell(4, 4, 2029), false);
        Check.due("the present month, a month since the second one", p.tell(9, 4, 2030), true);
        Check.due("late, a month since the first lapse", p.tell(4, 4, 2030), true);
    }

    private static void lapsedLater() {
        FlexiblePolicy p = Made.lapsedSince(24);
        p.tell(27, 4, 13027);
        p.tell(27, 4, 13026);
        // 510 pay the first month and leave 1; the lapse comes with 3 times 509, a month later.
        p.tell(0, 0, 510);
        Check.due("lapsed a month later, 23 months since", p.isDone(0), true);
        Check.due("in force then", p.state(), 0);
        p.strike(0);
        Check.due("a cent too little", p.isDone(1), false);
        p.strike(2);
        p.close(1);
        Check.due("25 months", p.tell(28, 4, 2000000), false);
    }

    private static void lapsedTwice() {
        FlexiblePolicy p = Made.lapsedSince(20);
        p.tell(23, 4, 11530);
        p.close(3);
        Check.due("lapsed for the second time", p.state(), 2);
        // At 31 and 32 the charges are 512 and twice 514.
        Check.due("no months since the second lapse", p.tell(26, 4, 1539), false);
        Made.closeAll(p, 23);
        Check.due("23 months since the second lapse", p.tell(49, 4, 13039), false);
        Check.due("23 months since the second lapse, enough", p.tell(49, 4, 13040), true);
    }

    private static void revivalPays() {
        Sentence.ofTerms(3, "these are paid from it, the rest goes into the account; it is in force then.");
        for (int more = 0; more <= 2; more++) {
            FlexiblePolicy p = Made.lapsedSince(23);
            p.tell(26, 4, 13030 + more);
            Check.due("the rest", p.account(), more);
            Check.due("no arrears", p.arrears(), 0);
            Check.due("in force", p.state(), 0);
            Check.due("no grace", p.grace(), 0);
            Check.due("no loan", p.loan(), 0);
            p.close(1);
            Check.due("in grace for the first time", p.grace(), 1);
            p.close(2);
            Check.due("lapsed with the third", p.state(), 2);
        }
    }

    private static void deathStates() {
        Sentence.ofTerms(3, "5 death: not when lapsed or ended;");
        isDoneByState(5, 1, true, true, false, false);
        isDoneByState(5, 2000000, true, true, false, false);
        FlexiblePolicy p = Made.lapsedSince(0);
        Check.due("late, in the last month of grace", p.tell(2, 5, 1), true);
        FlexiblePolicy q = Made.lapsedSince(0);
        Check.due("in the first lapsed month", q.tell(3, 5, 1), false);
        Check.due("revived", q.tell(3, 4, 1530), true);
        Check.due("behind the revival", q.tell(3, 5, 1), true);
    }

    private static void deathNoted() {
        Sentence.ofTerms(14, "it is ended then, and what was paid is noted; account, loan and arrears stay"
                + " as they are.");
        FlexiblePolicy p = Made.heldBack();
        p.tell(1, 5, 1);
        Check.due("ended", p.state(), 3);
        Check.due("100000 less 3012", p.paid(), 96988);
        Check.due("account", p.account(), 3005);
        Check.due("loan", p.loan(), 3012);
        Check.due("arrears", p.arrears(), 509);
        p.tell(1, 5, 1);
        p.close(1);
        p.tell(2, 5, 1);
        Check.due("noted, whatever comes", p.paid(), 96988);
        p.strike(2);
        Check.due("with the first struck, the second is done", p.isDone(3), true);
        p.strike(3);
        Check.due("with the second struck, the third is done", p.isDone(4), true);
        // (2 * 3005) / 1200 and (5 * 3012) / 1200.
        Check.due("account then", p.account(), 3010);
        Check.due("what is paid then", p.paid(), 100000 - 3024);
    }

    /** Whether an act is done in each state; where it may be, all else that it asks for is given. */
    private static void isDoneByState(int act, int amount, boolean inForce, boolean inGrace, boolean lapsed,
            boolean ended) {
        FlexiblePolicy p = Made.small(1000);
        p.tell(0, 1, 500);
        Check.due("in force", p.tell(0, act, amount), inForce);
        FlexiblePolicy first = Made.heldBack();
        Check.due("in grace, the first month", first.tell(1, act, amount), inGrace);
        FlexiblePolicy second = Made.heldBack();
        second.close(1);
        Check.due("in grace, the second month", second.tell(2, act, amount), inGrace);
        FlexiblePolicy third = Made.heldBack();
        third.close(2);
        Check.due("lapsed", third.tell(3, act, amount), lapsed);
        FlexiblePolicy later = Made.heldBack();
        later.close(5);
        Check.due("lapsed since 3 months", later.tell(6, act, amount), lapsed);
        FlexiblePolicy dead = Made.ended();
        Check.due("ended", dead.tell(0, act, amount), ended);
        dead.close(1);
        Check.due("ended in the month before", dead.tell(1, act, amount), ended);
    }
}
