/** Promises 9 to 22: what is told of a policy. The numbers are worked out by hand. */
public final class AnswersTest {
    public static void main(String[] args) {
        stateGraceArrears();
        graceEndsByPremium();
        graceEndsByClosing();
        revival();
        revivalTooLate();
        interest();
        loans();
        deathSum();
        ageAndCorridor();
        paid();
        charge();
        corridor();
        atMonths();
        atMonthsRefused();
        wouldLapse();
        needed();
        aheadRefused();
        Check.end("AnswersTest");
    }

    private static void stateGraceArrears() {
        FlexiblePolicy p = new FlexiblePolicy();
        long[] states = {0, 1, 1, 2, 2};
        long[] graces = {0, 1, 2, 0, 0};
        long[] arrears = {0, 1000, 2000, 3000, 3000};
        for (int m = 0; m < 5; m++) {
            Check.due("9 state in month " + m, p.state(), states[m]);
            Check.due("16 grace in month " + m, p.grace(), graces[m]);
            Check.due("12 arrears in month " + m, p.arrears(), arrears[m]);
            p.close(1);
        }
        Check.due("9 lapsed: no premium", p.tell(5, 0, 2000000), false);
        Check.due("9 lapsed: no death", p.tell(5, 5, 1), false);
        Check.due("9 lapsed: no loan", p.tell(5, 1, 1), false);
        Check.due("9 lapsed: no withdrawal", p.tell(5, 3, 1), false);
        Check.due("9 lapsed: no repayment", p.tell(5, 2, 1), false);
        Check.due("10 lapsed: account", p.account(), 0);
    }

    private static void graceEndsByPremium() {
        FlexiblePolicy p = new FlexiblePolicy();
        p.close(2);
        Check.due("12 part of the arrears", p.tell(2, 0, 1999), true);
        Check.due("12 arrears left", p.arrears(), 1);
        Check.due("9 still in grace", p.state(), 1);
        Check.due("16 still two months", p.grace(), 2);
        Check.due("10 nothing in the account", p.account(), 0);
        p.tell(2, 0, 3);
        Check.due("12 no arrears", p.arrears(), 0);
        Check.due("9 in force", p.state(), 0);
        Check.due("16 no grace", p.grace(), 0);
        Check.due("10 the rest", p.account(), 2);
        p.close(1);
        Check.due("16 grace counts anew", p.grace(), 1);
        p.tell(3, 5, 1);
        Check.due("16 ended", p.grace(), 0);
        Check.due("12 ended: arrears stay", p.arrears(), 999);
    }

    private static void graceEndsByClosing() {
        FlexiblePolicy p = inGraceWithLoan();
        Check.due("9 in grace", p.state(), 1);
        Check.due("10 account", p.account(), 100167);
        Check.due("11 loan", p.loan(), 99914);
        Check.due("12 arrears", p.arrears(), 990);
        Check.due("9 in grace: no loan", p.tell(1, 1, 1), false);
        Check.due("9 in grace: no withdrawal", p.tell(1, 3, 1), false);
        Check.due("9 in grace: no revival", p.tell(1, 4, 2000000), false);
        Check.due("11 in grace: repayment", p.tell(1, 2, 99914), true);
        Check.due("9 a repayment ends no grace", p.state(), 1);
        p.close(1);
        // 989 and 990 are paid, 245 come.
        Check.due("10 paid from it", p.account(), 98433);
        Check.due("12 paid", p.arrears(), 0);
        Check.due("9 in force", p.state(), 0);
        Check.due("16 no grace", p.grace(), 0);

        FlexiblePolicy q = inGraceWithLoan();
        q.close(2);
        Check.due("9 lapsed", q.state(), 2);
        Check.due("11 the loan is away", q.loan(), 0);
        Check.due("10 the account is away", q.account(), 0);
        Check.due("10 it was there", q.accountAt(2) > 100167, true);
    }

    private static void revival() {
        FlexiblePolicy p = new FlexiblePolicy();
        p.close(3);
        Check.due("9 not enough at once", p.tell(3, 4, 2999), false);
        Check.due("9 enough at once", p.tell(3, 4, 3000), true);
        Check.due("9 in force", p.state(), 0);
        Check.due("10 nothing left", p.account(), 0);
        Check.due("12 nothing due", p.arrears(), 0);
        p.close(1);
        Check.due("16 grace counts anew", p.grace(), 1);
        Check.due("12 arrears anew", p.arrears(), 1000);

        FlexiblePolicy q = new FlexiblePolicy();
        q.close(5);
        Check.due("9 two months later, not enough", q.tell(5, 4, 3999), false);
        Check.due("9 two months later", q.tell(5, 4, 4700), true);
        Check.due("10 the rest", q.account(), 700);
        q.close(3);
        Check.due("9 lapsed again", q.state(), 2);
        Check.due("9 counted from the second lapse", q.tell(8, 4, q.arrears()), true);
    }

    private static void revivalTooLate() {
        FlexiblePolicy p = new FlexiblePolicy();
        p.close(24);
        p.close(2);
        Check.due("9 23 months closed, not enough", p.tell(26, 4, 14499), false);
        Check.due("9 23 months closed", p.tell(26, 4, 14500), true);
        Check.due("10 nothing left", p.account(), 0);
        p.strike(1);
        p.close(1);
        Check.due("9 24 months closed", p.tell(27, 4, 2000000), false);
        Check.due("9 lapsed", p.state(), 2);
        Check.due("9 late, for month 26", p.tell(26, 4, 100000), true);
        Check.due("9 in force", p.state(), 0);
    }

    private static void interest() {
        FlexiblePolicy p = new FlexiblePolicy();
        p.begin(30, 50000000, 0);
        p.tell(0, 0, 2000000);
        p.close(1);
        // Less 5300; (3 * 1000000 + 4 * 994700) / 1200 = 5815.
        Check.due("10 above 1000000", p.account(), 2000515);
        p.begin(30, 5000000, 0);
        p.tell(0, 0, 1000900);
        p.close(1);
        // Less 899, 1000001 stay; (3000000 + 4) / 1200 = 2500.
        Check.due("10 by 1 above 1000000", p.account(), 1002501);
        p.begin(30, 50000000, 0);
        p.tell(0, 0, 2000000);
        p.tell(0, 1, 500000);
        p.close(1);
        // (2 * 500000 + 3 * 1000000 + 4 * 494700) / 1200 = 4982.
        Check.due("10 with a loan", p.account(), 1999682);
        Check.due("11 it grows", p.loan(), 502083);
    }

    private static void loans() {
        FlexiblePolicy p = new FlexiblePolicy();
        p.tell(0, 0, 100000);
        Check.due("11 above the free part", p.tell(0, 1, 100001), false);
        Check.due("11 none", p.loan(), 0);
        Check.due("11 a part", p.tell(0, 1, 60000), true);
        Check.due("11 is 60000", p.loan(), 60000);
        Check.due("11 above the rest", p.tell(0, 1, 40001), false);
        Check.due("11 the rest", p.tell(0, 1, 40000), true);
        Check.due("10 the account stays", p.account(), 100000);
        p.close(1);
        // Nothing is free: 2 * 100000 / 1200 = 166, 5 * 100000 / 1200 = 416.
        Check.due("10 all held back", p.account(), 100166);
        Check.due("11 grown", p.loan(), 100416);
        Check.due("11 a free part below 0 is 0", p.tell(1, 2, 100417), false);
        p.close(1);
        // The held part is the account, 100166: 166; 5 * 100416 / 1200 = 418.
        Check.due("10 less than the loan", p.account(), 100332);
        Check.due("11 grown again", p.loan(), 100834);
    }

    private static void deathSum() {
        FlexiblePolicy p = new FlexiblePolicy();
        p.begin(40, 100000, 0);
        Check.due("13 the sum", p.deathSum(), 100000);
        p.tell(0, 0, 40000);
        Check.due("13 the corridor just reached", p.deathSum(), 100000);
        p.tell(0, 0, 1);
        Check.due("13 the corridor, rounded down", p.deathSum(), 100002);
        p.begin(40, 100000, 1);
        p.tell(0, 0, 10001);
        Check.due("13 the sum and the account", p.deathSum(), 110001);
        p.tell(0, 0, 89999);
        Check.due("13 kind 1, the corridor", p.deathSum(), 250000);
        p.tell(0, 5, 1);
        Check.due("13 ended", p.deathSum(), 0);
        p.begin(40, 100000, 1);
        p.close(2);
        Check.due("13 in grace", p.deathSum(), 100000);
        p.close(1);
        Check.due("13 lapsed", p.deathSum(), 0);
    }

    private static void ageAndCorridor() {
        FlexiblePolicy p = new FlexiblePolicy();
        p.begin(40, 100000, 0);
        p.tell(0, 0, 2000000);
        p.close(11);
        Check.due("13 still 40", p.deathSum(), p.account() * 250L / 100);
        p.close(1);
        Check.due("13 41", p.deathSum(), p.account() * 245L / 100);
        long risk = p.account() * 245L / 100 - p.account();
        Check.due("15 rate at 41", p.charge(), 500 + risk * 32 / 100000);
        p.begin(70, 100000, 0);
        p.tell(0, 0, 2000000);
        p.close(24);
        Check.due("13 at 72 no less than 105", p.deathSum(), p.account() * 105L / 100);
    }

    private static void paid() {
        FlexiblePolicy p = new FlexiblePolicy();
        Check.due("14 in force", p.paid(), -1);
        p.tell(0, 0, 100000);
        p.tell(0, 1, 30000);
        p.tell(0, 5, 2000000);
        Check.due("14 less the loan", p.paid(), 4970000);
        p.close(3);
        Check.due("14 it stays", p.paid(), 4970000);
        p.strike(2);
        Check.due("14 death struck", p.paid(), -1);
        Check.due("14 late death", p.tell(1, 5, 1), true);
        // The loan of 30000 has grown by 125.
        Check.due("14 of that month", p.paid(), 4969875);
        Check.due("14 ended from then on", p.stateAt(2), 3);
        Check.due("14 not before", p.stateAt(1), 0);

        FlexiblePolicy q = inGraceWithLoan();
        Check.due("14 death in grace", q.tell(1, 5, 1), true);
        Check.due("14 arrears count nothing", q.paid(), 5000000 - 99914);
        FlexiblePolicy lapsed = new FlexiblePolicy();
        lapsed.close(3);
        lapsed.tell(3, 5, 1);
        Check.due("14 lapsed", lapsed.paid(), -1);
    }

    private static void charge() {
        FlexiblePolicy p = new FlexiblePolicy();
        p.begin(30, 5000000, 0);
        Check.due("15 at 30", p.charge(), 1000);
        p.begin(31, 5000000, 0);
        Check.due("15 at 31", p.charge(), 1100);
        p.begin(29, 5000000, 0);
        Check.due("15 at 29", p.charge(), 1000);
        p.begin(40, 100000, 0);
        p.tell(0, 0, 100000);
        Check.due("15 by the corridor", p.charge(), 545);
        p.begin(40, 100000, 1);
        p.tell(0, 0, 10000);
        Check.due("15 kind 1", p.charge(), 530);
        p.begin(30, 109999, 0);
        Check.due("15 rounded down", p.charge(), 510);
        p.close(1);
        Check.due("15 in grace, without the arrears", p.charge(), 510);
        p.close(2);
        Check.due("15 lapsed", p.charge(), 0);
        p.begin(30, 5000000, 0);
        p.tell(0, 5, 1);
        Check.due("15 ended", p.charge(), 0);
    }

    private static void corridor() {
        FlexiblePolicy p = new FlexiblePolicy();
        int[] ages = {18, 30, 39, 40, 41, 42, 50, 67, 68, 69, 70, 90, 120};
        int[] wants = {250, 250, 250, 250, 245, 240, 200, 115, 110, 105, 105, 105, 105};
        for (int i = 0; i < ages.length; i++) {
            Check.due("17 at " + ages[i], p.corridor(ages[i]), wants[i]);
        }
        Check.refused("17 at 17", p, Check.ARGUMENT, () -> p.corridor(17));
        Check.refused("17 at 121", p, Check.ARGUMENT, () -> p.corridor(121));
        Check.refused("17 lowest", p, Check.ARGUMENT, () -> p.corridor(Integer.MIN_VALUE));
        Check.refused("17 highest", p, Check.ARGUMENT, () -> p.corridor(Integer.MAX_VALUE));
    }

    private static void atMonths() {
        FlexiblePolicy p = new FlexiblePolicy();
        p.tell(0, 0, 100000);
        Check.due("18 month 0, ahead of its acts", p.accountAt(0), 0);
        Check.due("19 month 0, ahead of its acts", p.accountFromStart(0), 0);
        p.close(1);
        p.tell(1, 3, 99000);
        Check.due("18 month 1, ahead of its acts", p.accountAt(1), 99257);
        Check.due("19 month 1, ahead of its acts", p.accountFromStart(1), 99257);
        p.close(3);
        long[] states = {0, 0, 1, 1, 2};
        for (int m = 0; m <= 4; m++) {
            Check.due("20 month " + m, p.stateAt(m), states[m]);
            Check.due("19 month " + m, p.accountFromStart(m), p.accountAt(m));
        }
        Check.due("18 257 in grace", p.accountAt(2), 257);
        Check.due("18 lapsed", p.accountAt(4), 0);
        p.tell(0, 0, 1000);
        // 101000 less 989, and 250 of interest.
        Check.due("18 told late", p.accountAt(1), 100261);
        Check.due("19 told late", p.accountFromStart(1), 100261);
        p.tell(2, 5, 1);
        Check.due("20 ended", p.stateAt(3), 3);
        Check.due("20 not yet", p.stateAt(2), 0);
        Check.due("18 ended, it stays", p.accountAt(4), p.accountAt(2));
        Check.due("19 ended, it stays", p.accountFromStart(4), p.accountAt(2));
        p.begin(30, 5000000, 0);
        p.close(1);
        Check.due("18 anew", p.accountAt(1), 0);
        Check.due("20 anew", p.stateAt(1), 1);
    }

    private static void atMonthsRefused() {
        FlexiblePolicy p = new FlexiblePolicy();
        p.tell(0, 0, 100000);
        p.close(2);
        int[] wrongs = {-1, 3, 121, Integer.MIN_VALUE, Integer.MAX_VALUE};
        for (int m : wrongs) {
            Check.refused("18 month " + m, p, Check.ARGUMENT, () -> p.accountAt(m));
            Check.refused("19 month " + m, p, Check.ARGUMENT, () -> p.accountFromStart(m));
            Check.refused("20 month " + m, p, Check.ARGUMENT, () -> p.stateAt(m));
        }
    }

    private static void wouldLapse() {
        FlexiblePolicy p = new FlexiblePolicy();
        Check.due("21 within 2", p.wouldLapse(2), -1);
        Check.due("21 within 3", p.wouldLapse(3), 3);
        Check.due("21 within 120", p.wouldLapse(120), 3);
        p.close(2);
        Check.due("21 in the third", p.wouldLapse(1), 3);
        p.tell(2, 0, 2000);
        Check.due("21 saved by a premium", p.wouldLapse(2), -1);
        Check.due("21 until 5", p.wouldLapse(3), 5);
        p.close(3);
        Check.due("21 lapsed now", p.wouldLapse(120), -1);
        p.begin(30, 5000000, 0);
        p.tell(0, 5, 1);
        Check.due("21 ended", p.wouldLapse(120), -1);
        p.begin(30, 100000, 0);
        p.tell(0, 0, 2000000);
        for (int i = 0; i < 5; i++) {
            p.close(24);
        }
        Check.due("21 nothing behind month 120", p.wouldLapse(120), -1);
        while (p.account() > 0) {
            p.tell(120, 3, Math.min(p.account(), 2000000));
        }
        Check.due("21 behind month 120", p.wouldLapse(120), 123);
    }

    private static void needed() {
        FlexiblePolicy p = new FlexiblePolicy();
        Check.due("22 within 1", p.needed(1), 0);
        Check.due("22 within 2", p.needed(2), 0);
        // With 999 the charge is 999.
        Check.due("22 within 3", p.needed(3), 999);
        p.close(2);
        // With less the 2000 and a charge are due, and nothing is in the account.
        Check.due("22 in the second month of grace", p.needed(1), 2000);
        p.tell(2, 0, 1500);
        Check.due("22 what is left of the arrears", p.needed(1), 500);
        p.close(1);
        Check.due("22 lapsed", p.needed(1), -1);
        p.begin(30, 5000000, 0);
        p.tell(0, 0, 2000000);
        Check.due("22 none", p.needed(36), 0);
        p.tell(0, 5, 1);
        Check.due("22 ended", p.needed(36), -1);
        neededNotEnough();
    }

    private static void neededNotEnough() {
        FlexiblePolicy p = new FlexiblePolicy();
        for (int i = 0; i < 20; i++) {
            p.tell(0, 0, 2000000);
            p.tell(0, 1, 2000000);
        }
        // 40 millions of loan cost 3 hundredths a year more than they earn.
        Check.due("22 2000000 is not enough", p.needed(36), -1);
        Check.due("22 for a while it is", p.needed(6) > 0, true);
    }

    private static void aheadRefused() {
        FlexiblePolicy p = new FlexiblePolicy();
        p.tell(0, 0, 5000);
        Check.refused("21 within 0", p, Check.ARGUMENT, () -> p.wouldLapse(0));
        Check.refused("21 within 121", p, Check.ARGUMENT, () -> p.wouldLapse(121));
        Check.refused("21 lowest", p, Check.ARGUMENT, () -> p.wouldLapse(Integer.MIN_VALUE));
        Check.refused("21 highest", p, Check.ARGUMENT, () -> p.wouldLapse(Integer.MAX_VALUE));
        Check.refused("22 within 0", p, Check.ARGUMENT, () -> p.needed(0));
        Check.refused("22 within 37", p, Check.ARGUMENT, () -> p.needed(37));
        Check.refused("22 lowest", p, Check.ARGUMENT, () -> p.needed(Integer.MIN_VALUE));
        Check.refused("22 highest", p, Check.ARGUMENT, () -> p.needed(Integer.MAX_VALUE));
        p.tell(0, 5, 1);
        Check.refused("21 ended, within 0", p, Check.ARGUMENT, () -> p.wouldLapse(0));
        Check.refused("22 ended, within 37", p, Check.ARGUMENT, () -> p.needed(37));
    }

    /** In month 1: 100000 with a loan of 99500 left 500 free, less than the charge of 990. */
    private static FlexiblePolicy inGraceWithLoan() {
        FlexiblePolicy p = new FlexiblePolicy();
        p.tell(0, 0, 100000);
        p.tell(0, 1, 99500);
        p.close(1);
        return p;
    }
}
