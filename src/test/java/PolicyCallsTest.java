/** Promises 1 to 8: the calls that begin, tell, strike and close. */
public final class PolicyCallsTest {
    public static void main(String[] args) {
        newObject();
        begin();
        beginRefused();
        tellNow();
        tellLate();
        tellInOrder();
        tellRefused();
        tellSixty();
        strike();
        strikeRefused();
        isDone();
        acts();
        close();
        closeRefused();
        month();
        Check.end("PolicyCallsTest");
    }

    private static void newObject() {
        FlexiblePolicy p = new FlexiblePolicy();
        Check.due("1 month", p.month(), 0);
        Check.due("1 acts", p.acts(), 0);
        Check.due("1 state", p.state(), 0);
        Check.due("1 account", p.account(), 0);
        Check.due("1 loan", p.loan(), 0);
        Check.due("1 arrears", p.arrears(), 0);
        Check.due("1 grace", p.grace(), 0);
        Check.due("1 paid", p.paid(), -1);
        Check.due("1 sum", p.deathSum(), 5000000);
        Check.due("1 age 30, not 31 (charge)", p.charge(), 1000);
        p.tell(0, 0, 100000);
        Check.due("1 kind 0", p.deathSum(), 5000000);
        p.close(12);
        // At 31 the rate is 12.
        Check.due("1 age 31 after 12 months", p.charge(), 500 + (5000000 - p.account()) * 12L / 100000);
    }

    private static void begin() {
        FlexiblePolicy p = new FlexiblePolicy();
        Check.due("2 nothing closed", p.begin(18, 100000, 0), 0);
        Check.due("2 sum 100000", p.deathSum(), 100000);
        Check.due("2 rate at 18", p.charge(), 510);
        p.tell(0, 0, 100000);
        p.close(7);
        p.tell(7, 1, 1000);
        p.tell(7, 5, 1);
        Check.due("2 seven closed", p.begin(70, 50000000, 1), 7);
        Check.due("2 month", p.month(), 0);
        Check.due("2 acts", p.acts(), 0);
        Check.due("2 state", p.state(), 0);
        Check.due("2 account", p.account(), 0);
        Check.due("2 loan", p.loan(), 0);
        Check.due("2 paid", p.paid(), -1);
        Check.due("2 sum 50000000", p.deathSum(), 50000000);
        Check.due("2 rate at 70 is 90", p.charge(), 45500);
        Check.due("2 no act 0", Check.thrownBy(() -> p.isDone(0)), Check.INDEX);
        p.tell(0, 0, 10000);
        Check.due("2 kind 1", p.deathSum(), 50010000);
        p.close(1);
        Check.due("2 one closed", p.begin(30, 5000000, 0), 1);
        Check.due("2 account at 0", p.accountAt(0), 0);
        p.close(3);
        Check.due("2 a lapsed one begun anew", p.begin(30, 5000000, 0), 3);
        Check.due("2 arrears", p.arrears(), 0);
        Check.due("2 grace", p.grace(), 0);
        Check.due("2 in force again", p.stateAt(0), 0);
    }

    private static void beginRefused() {
        FlexiblePolicy p = Made.busy();
        Check.refused("2 age 17", p, Check.ARGUMENT, () -> p.begin(17, 100000, 0));
        Check.refused("2 age 71", p, Check.ARGUMENT, () -> p.begin(71, 100000, 0));
        Check.refused("2 sum 99999", p, Check.ARGUMENT, () -> p.begin(30, 99999, 0));
        Check.refused("2 sum 50000001", p, Check.ARGUMENT, () -> p.begin(30, 50000001, 0));
        Check.refused("2 kind -1", p, Check.ARGUMENT, () -> p.begin(30, 100000, -1));
        Check.refused("2 kind 2", p, Check.ARGUMENT, () -> p.begin(30, 100000, 2));
        Check.refused("2 lowest", p, Check.ARGUMENT, () -> p.begin(Integer.MIN_VALUE, 100000, 0));
        Check.refused("2 highest", p, Check.ARGUMENT, () -> p.begin(30, Integer.MAX_VALUE, 0));
    }

    private static void tellNow() {
        FlexiblePolicy p = new FlexiblePolicy();
        Check.due("3 premium 1", p.tell(0, 0, 1), true);
        Check.due("3 account 1", p.account(), 1);
        Check.due("3 premium 2000000", p.tell(0, 0, 2000000), true);
        Check.due("3 account", p.account(), 2000001);
        Check.due("3 loan", p.tell(0, 1, 2000000), true);
        Check.due("3 free part is 1", p.tell(0, 1, 2), false);
        Check.due("3 no withdrawal of 2", p.tell(0, 3, 2), false);
        Check.due("3 withdrawal of 1", p.tell(0, 3, 1), true);
        Check.due("3 account less 1", p.account(), 2000000);
        Check.due("3 free part is 0", p.tell(0, 3, 1), false);
        Check.due("3 repayment", p.tell(0, 2, 1500000), true);
        Check.due("3 repayment above the loan", p.tell(0, 2, 500001), false);
        Check.due("3 repayment of it all", p.tell(0, 2, 500000), true);
        Check.due("3 loan 0", p.loan(), 0);
        Check.due("3 no revival in force", p.tell(0, 4, 2000000), false);
        Check.due("3 death", p.tell(0, 5, 1), true);
        Check.due("3 no second death", p.tell(0, 5, 1), false);
        for (int act = 0; act <= 4; act++) {
            Check.due("3 ended, act " + act, p.tell(0, act, 1), false);
        }
        Check.due("3 account stays", p.account(), 2000000);
    }

    private static void tellLate() {
        FlexiblePolicy p = new FlexiblePolicy();
        p.close(3);
        Check.due("3 lapsed", p.state(), 2);
        Check.due("3 revival", p.tell(3, 4, 4000), true);
        Check.due("3 late premium", p.tell(0, 0, 100000), true);
        Check.due("3 never lapsed then", p.state(), 0);
        Check.due("3 revival not done any more", p.isDone(0), false);
        // 100000 less 990, and 247 of interest.
        Check.due("3 month 1", p.accountAt(1), 99257);
        Check.due("3 late withdrawal above it", p.tell(1, 3, 99258), false);
        Check.due("3 late withdrawal of it all", p.tell(1, 3, 99257), true);
        Check.due("3 in grace in month 2", p.stateAt(2), 1);
        Check.due("3 in grace in month 3", p.state(), 1);
        Check.due("3 two months of grace", p.grace(), 2);
    }

    private static void tellInOrder() {
        FlexiblePolicy p = new FlexiblePolicy();
        Check.due("3 loan ahead of the premium", p.tell(0, 1, 5000), false);
        Check.due("3 premium", p.tell(0, 0, 50000), true);
        Check.due("3 the loan stays undone", p.isDone(0), false);
        Check.due("3 loan behind the premium", p.tell(0, 1, 5000), true);
        p.close(2);
        Check.due("3 late, behind those of its month", p.tell(0, 3, 45001), false);
        Check.due("3 late, the free part then", p.tell(0, 3, 45000), true);
        Check.due("3 no free part in month 0 left", p.stateAt(1), 1);
    }

    private static void tellRefused() {
        FlexiblePolicy p = Made.busy();
        int m = p.month();
        Check.refused("3 month -1", p, Check.ARGUMENT, () -> p.tell(-1, 0, 1));
        Check.refused("3 month to come", p, Check.ARGUMENT, () -> p.tell(m + 1, 0, 1));
        Check.refused("3 act -1", p, Check.ARGUMENT, () -> p.tell(0, -1, 1));
        Check.refused("3 act 6", p, Check.ARGUMENT, () -> p.tell(0, 6, 1));
        Check.refused("3 amount 0", p, Check.ARGUMENT, () -> p.tell(0, 0, 0));
        Check.refused("3 amount 2000001", p, Check.ARGUMENT, () -> p.tell(0, 0, 2000001));
        Check.refused("3 amount of death 0", p, Check.ARGUMENT, () -> p.tell(m, 5, 0));
        Check.refused("3 amount of death", p, Check.ARGUMENT, () -> p.tell(m, 5, 2000001));
    }

    private static void tellSixty() {
        FlexiblePolicy p = new FlexiblePolicy();
        for (int i = 0; i < 60; i++) {
            Check.due("3 act " + i, p.tell(0, 0, 1000), true);
        }
        Check.refused("3 a 61st", p, Check.STATE, () -> p.tell(0, 0, 1000));
        Check.refused("3 a 61st out of range", p, Check.ARGUMENT, () -> p.tell(1, 0, 1000));
        Check.refused("3 a 61st of no kind", p, Check.ARGUMENT, () -> p.tell(0, 6, 1000));
        p.strike(5);
        Check.refused("3 a struck one counts", p, Check.STATE, () -> p.tell(0, 0, 1000));
        Check.due("3 account", p.account(), 59000);
        p.begin(30, 5000000, 0);
        Check.due("3 anew", p.tell(0, 0, 1), true);
    }

    private static void strike() {
        FlexiblePolicy p = new FlexiblePolicy();
        p.tell(0, 0, 100000);
        p.close(1);
        p.tell(1, 0, 50000);
        p.close(2);
        p.tell(0, 1, 20000);
        Check.due("4 a late one's month", p.strike(2), 0);
        Check.due("4 loan away", p.loan(), 0);
        Check.due("4 month of act 1", p.strike(1), 1);
        Check.due("4 as if never told", p.accountAt(1), 99257);
        Check.due("4 act 0 stays", p.isDone(0), true);
        Check.due("4 numbers go on", p.acts(), 3);
        p.tell(3, 1, 10);
        Check.due("4 the next one is 3", p.isDone(3), true);
        Check.due("4 month of act 0", p.strike(0), 0);
        Check.due("4 lapsed without it", p.state(), 2);
        Check.due("4 what rests on it is undone", p.isDone(3), false);
        Check.due("4 the last one's month", p.strike(3), 3);

        FlexiblePolicy q = new FlexiblePolicy();
        q.tell(0, 0, 100000);
        q.tell(0, 5, 1);
        q.close(24);
        Check.due("4 the death struck", q.strike(1), 0);
        Check.due("4 in force again", q.state(), 0);
        Check.due("4 nothing paid", q.paid(), -1);
    }

    private static void strikeRefused() {
        FlexiblePolicy p = new FlexiblePolicy();
        Check.refused("4 no act yet", p, Check.INDEX, () -> p.strike(0));
        p.tell(0, 0, 100);
        p.tell(0, 0, 200);
        Check.refused("4 act -1", p, Check.INDEX, () -> p.strike(-1));
        Check.refused("4 act 2", p, Check.INDEX, () -> p.strike(2));
        Check.refused("4 lowest", p, Check.INDEX, () -> p.strike(Integer.MIN_VALUE));
        Check.refused("4 highest", p, Check.INDEX, () -> p.strike(Integer.MAX_VALUE));
        p.strike(0);
        Check.refused("4 struck", p, Check.INDEX, () -> p.strike(0));
        p.begin(30, 5000000, 0);
        Check.refused("4 one of before", p, Check.INDEX, () -> p.strike(1));
    }

    private static void isDone() {
        FlexiblePolicy p = new FlexiblePolicy();
        Check.refused("5 no act yet", p, Check.INDEX, () -> p.isDone(0));
        p.tell(0, 0, 100);
        p.tell(0, 1, 101);
        p.tell(0, 1, 100);
        Check.due("5 premium", p.isDone(0), true);
        Check.due("5 loan above the account", p.isDone(1), false);
        Check.due("5 loan of it", p.isDone(2), true);
        Check.refused("5 act 3", p, Check.INDEX, () -> p.isDone(3));
        Check.refused("5 act -1", p, Check.INDEX, () -> p.isDone(-1));
        Check.refused("5 lowest", p, Check.INDEX, () -> p.isDone(Integer.MIN_VALUE));
        Check.refused("5 highest", p, Check.INDEX, () -> p.isDone(Integer.MAX_VALUE));
        p.strike(2);
        Check.refused("5 struck", p, Check.INDEX, () -> p.isDone(2));
        p.strike(0);
        Check.due("5 still undone", p.isDone(1), false);
        p.begin(30, 5000000, 0);
        p.tell(0, 1, 1);
        Check.due("5 a number used again", p.isDone(0), false);
    }

    private static void acts() {
        FlexiblePolicy p = new FlexiblePolicy();
        p.tell(0, 0, 100);
        p.tell(0, 3, 500);
        Check.due("6 an undone one counts", p.acts(), 2);
        p.strike(0);
        p.strike(1);
        Check.due("6 struck ones count", p.acts(), 2);
        p.close(1);
        p.tell(0, 0, 100);
        Check.due("6 a late one counts", p.acts(), 3);
        p.begin(30, 100000, 0);
        Check.due("6 anew", p.acts(), 0);
    }

    private static void close() {
        FlexiblePolicy p = new FlexiblePolicy();
        p.tell(0, 0, 100000);
        Check.due("7 one", p.close(1), 1);
        Check.due("7 account", p.account(), 99257);
        Check.due("7 24 more", p.close(24), 25);

        FlexiblePolicy q = new FlexiblePolicy();
        q.tell(0, 0, 100000);
        for (int i = 0; i < 25; i++) {
            q.close(1);
        }
        Check.due("7 the same one by one", Check.all(q).equals(Check.all(p)), true);

        FlexiblePolicy dead = new FlexiblePolicy();
        dead.tell(0, 0, 100000);
        dead.tell(0, 1, 40000);
        dead.tell(0, 5, 1);
        Check.due("7 an ended one", dead.close(24), 24);
        Check.due("7 its account stays", dead.account(), 100000);
        Check.due("7 its loan stays", dead.loan(), 40000);
        Check.due("7 its state stays", dead.state(), 3);
    }

    private static void closeRefused() {
        FlexiblePolicy p = Made.busy();
        Check.refused("7 none", p, Check.ARGUMENT, () -> p.close(0));
        Check.refused("7 -1", p, Check.ARGUMENT, () -> p.close(-1));
        Check.refused("7 25", p, Check.ARGUMENT, () -> p.close(25));
        Check.refused("7 lowest", p, Check.ARGUMENT, () -> p.close(Integer.MIN_VALUE));
        Check.refused("7 highest", p, Check.ARGUMENT, () -> p.close(Integer.MAX_VALUE));
        while (p.month() + 24 <= 119) {
            p.close(24);
        }
        p.close(119 - p.month());
        Check.refused("7 a 121st", p, Check.STATE, () -> p.close(2));
        Check.due("7 the 120th", p.close(1), 120);
        Check.refused("7 behind the 120th", p, Check.STATE, () -> p.close(1));
        Check.refused("7 25 behind the 120th", p, Check.ARGUMENT, () -> p.close(25));
        Check.due("7 an act in month 120", p.tell(120, 5, 1), p.paid() != -1);
    }

    private static void month() {
        FlexiblePolicy p = new FlexiblePolicy();
        p.close(24);
        Check.due("8 closed 24", p.month(), 24);
        p.tell(0, 0, 100);
        Check.due("8 a late act changes nothing", p.month(), 24);
        p.strike(0);
        Check.due("8 nor a struck one", p.month(), 24);
        p.begin(30, 100000, 0);
        Check.due("8 anew", p.month(), 0);
    }
}
