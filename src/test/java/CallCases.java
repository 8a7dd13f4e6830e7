import java.util.function.Consumer;
import java.util.function.Supplier;

/**
 * The sentences of promises 1 to 8, a test for each, and the rule for calls that throw. A call
 * that is refused is tried on a policy of every sort.
 */
final class CallCases {
    private CallCases() {
    }

    static void run() {
        newObject();
        beginsAnew();
        beginAge();
        beginSum();
        beginKind();
        beginReturns();
        beginThrows();
        tellLateOrNow();
        tellMonth();
        tellAct();
        tellAmount();
        tellReturns();
        tellThrowsArgument();
        tellThrowsState();
        strikes();
        strikeNumber();
        strikeReturns();
        strikeThrows();
        isDone();
        isDoneThrows();
        acts();
        closes();
        closeMonths();
        closeReturns();
        closeThrowsArgument();
        closeThrowsState();
        month();
        firstOfTheThrowsClause();
    }

    private static void newObject() {
        Sentence.of(1, "Begins a policy in the month 0.");
        FlexiblePolicy p = new FlexiblePolicy();
        Check.due("month", p.month(), 0);
        Check.due("acts", p.acts(), 0);
        FlexiblePolicy q = new FlexiblePolicy();
        q.close(5);
        q.tell(5, 0, 1);
        Check.due("another one's month", p.month(), 0);
        Check.due("another one's acts", p.acts(), 0);
        Check.due("as one that was begun so", sameFromHere(new FlexiblePolicy(), begun(30, 5000000, 0)), true);
    }

    private static FlexiblePolicy begun(int age, int sum, int kind) {
        FlexiblePolicy p = new FlexiblePolicy();
        p.begin(age, sum, kind);
        return p;
    }

    /** Whether two policies answer the same, now and through some acts and years. */
    private static boolean sameFromHere(FlexiblePolicy p, FlexiblePolicy q) {
        boolean same = Check.all(p).equals(Check.all(q));
        for (int i = 0; i < 4; i++) {
            for (int act = 0; act <= 4; act++) {
                int amount = 20000 + 100 * act;
                same &= p.tell(p.month(), act, amount) == q.tell(q.month(), act, amount);
            }
            same &= p.close(9) == q.close(9);
            same &= Check.all(p).equals(Check.all(q));
        }
        return same;
    }

    private static void beginsAnew() {
        Sentence.of(2, "Begins the policy anew, in the month 0, without acts.");
        for (Supplier<FlexiblePolicy> sort : Made.sorts()) {
            FlexiblePolicy p = sort.get();
            p.begin(50, 700000, 1);
            Check.due("month", p.month(), 0);
            Check.due("acts", p.acts(), 0);
            Check.due("no act is left", Check.thrownBy(() -> p.isDone(0)), Check.INDEX);
            Check.due("nothing of the one before", sameFromHere(p, begun(50, 700000, 1)), true);
        }
        FlexiblePolicy full = Made.full();
        full.begin(30, 100000, 0);
        Check.due("60 acts again", tellSixty(full), 60);
    }

    private static int tellSixty(FlexiblePolicy p) {
        int told = 0;
        for (int i = 0; i < 60; i++) {
            told += Check.thrownBy(() -> p.tell(0, 0, 10)) == Check.NOTHING ? 1 : 0;
        }
        return told;
    }

    private static void beginAge() {
        Sentence.of(2, "the age at its beginning, 18 to 70");
        Check.due("18", begun(18, 100000, 0).charge(), 510);
        Check.due("70", begun(70, 100000, 0).charge(), 590);
        Made.refuse("17", Check.ARGUMENT, p -> p.begin(17, 100000, 0));
        Made.refuse("71", Check.ARGUMENT, p -> p.begin(71, 100000, 0));
        Made.refuse("0", Check.ARGUMENT, p -> p.begin(0, 100000, 0));
        Made.refuse("the lowest", Check.ARGUMENT, p -> p.begin(Integer.MIN_VALUE, 100000, 0));
        Made.refuse("the highest", Check.ARGUMENT, p -> p.begin(Integer.MAX_VALUE, 100000, 0));
    }

    private static void beginSum() {
        Sentence.of(2, "100000 to 50000000");
        Check.due("100000", begun(30, 100000, 0).deathSum(), 100000);
        Check.due("50000000", begun(30, 50000000, 0).deathSum(), 50000000);
        Made.refuse("99999", Check.ARGUMENT, p -> p.begin(30, 99999, 0));
        Made.refuse("50000001", Check.ARGUMENT, p -> p.begin(30, 50000001, 0));
        Made.refuse("0", Check.ARGUMENT, p -> p.begin(30, 0, 0));
        Made.refuse("-100000", Check.ARGUMENT, p -> p.begin(30, -100000, 0));
        Made.refuse("the lowest", Check.ARGUMENT, p -> p.begin(30, Integer.MIN_VALUE, 0));
        Made.refuse("the highest", Check.ARGUMENT, p -> p.begin(30, Integer.MAX_VALUE, 0));
    }

    private static void beginKind() {
        Sentence.of(2, "0 or 1");
        FlexiblePolicy none = begun(30, 100000, 0);
        none.tell(0, 0, 10000);
        Check.due("0", none.deathSum(), 100000);
        FlexiblePolicy one = begun(30, 100000, 1);
        one.tell(0, 0, 10000);
        Check.due("1", one.deathSum(), 110000);
        Made.refuse("-1", Check.ARGUMENT, p -> p.begin(30, 100000, -1));
        Made.refuse("2", Check.ARGUMENT, p -> p.begin(30, 100000, 2));
        Made.refuse("the lowest", Check.ARGUMENT, p -> p.begin(30, 100000, Integer.MIN_VALUE));
        Made.refuse("the highest", Check.ARGUMENT, p -> p.begin(30, 100000, Integer.MAX_VALUE));
    }

    private static void beginReturns() {
        Sentence.of(2, "Returns how many months were closed in the one before.");
        FlexiblePolicy p = new FlexiblePolicy();
        Check.due("none", p.begin(30, 100000, 0), 0);
        p.close(1);
        Check.due("1", p.begin(30, 100000, 0), 1);
        Check.due("none behind that", p.begin(30, 100000, 0), 0);
        Made.closeAll(p, 120);
        Check.due("120", p.begin(30, 100000, 0), 120);
        p.close(24);
        Check.thrownBy(() -> p.begin(71, 100000, 0));
        Check.due("24, one that was refused not counted", p.begin(70, 100000, 0), 24);
        Check.due("of a lapsed one", Made.lapsedSince(4).begin(30, 100000, 0), 7);
        FlexiblePolicy ended = Made.ended();
        ended.close(9);
        Check.due("of an ended one", ended.begin(30, 100000, 0), 9);
    }

    private static void beginThrows() {
        Sentence.of(2, "Throws `IllegalArgumentException` if age, sum or kind is out of range");
        Made.refuse("age", Check.ARGUMENT, p -> p.begin(17, 100000, 1));
        Made.refuse("sum", Check.ARGUMENT, p -> p.begin(18, 99999, 1));
        Made.refuse("kind", Check.ARGUMENT, p -> p.begin(18, 100000, 2));
        Made.refuse("age and sum", Check.ARGUMENT, p -> p.begin(71, 50000001, 1));
        Made.refuse("sum and kind", Check.ARGUMENT, p -> p.begin(70, 50000001, 2));
        Made.refuse("all", Check.ARGUMENT, p -> p.begin(71, 50000001, -1));
        FlexiblePolicy p = Made.busy();
        Check.due("the least of all", Check.thrownBy(() -> p.begin(18, 100000, 0)), Check.NOTHING);
        Check.due("the greatest of all", Check.thrownBy(() -> p.begin(70, 50000000, 1)), Check.NOTHING);
    }

    private static void tellLateOrNow() {
        Sentence.of(3, "Tells an act in the present month, or late, for one that is closed.");
        FlexiblePolicy p = Made.small(5000);
        p.close(2);
        int before = p.account();
        p.tell(2, 0, 100);
        Check.due("in the present month", p.account(), before + 100);
        p.tell(1, 0, 1000);
        Check.due("late, month 1 stays", p.accountAt(1), 4502);
        // 4502 and 1000 less 509, and 12 of interest.
        Check.due("late, month 2", p.accountAt(2), 5005);
        Check.due("behind the late one the present one is done again", p.account(), 5105);
    }

    private static void tellMonth() {
        Sentence.of(3, "0 to the present month");
        for (int present : new int[] {0, 1, 119, 120}) {
            FlexiblePolicy p = Made.inMonth(present);
            Check.due("0 of " + present, Check.thrownBy(() -> p.tell(0, 0, 1)), Check.NOTHING);
            Check.due(present + " of " + present, Check.thrownBy(() -> p.tell(present, 0, 1)), Check.NOTHING);
            Supplier<FlexiblePolicy> sort = () -> Made.inMonth(present);
            Made.refuse("behind " + present, sort, Check.ARGUMENT, q -> q.tell(present + 1, 0, 1));
        }
        Made.refuse("-1", Check.ARGUMENT, p -> p.tell(-1, 0, 1));
        Made.refuse("the one behind the present", Check.ARGUMENT, p -> p.tell(p.month() + 1, 0, 1));
        Made.refuse("the lowest", Check.ARGUMENT, p -> p.tell(Integer.MIN_VALUE, 0, 1));
        Made.refuse("the highest", Check.ARGUMENT, p -> p.tell(Integer.MAX_VALUE, 0, 1));
        FlexiblePolicy anew = Made.busy();
        anew.begin(30, 100000, 0);
        Check.due("a month of the one before", Check.thrownBy(() -> anew.tell(1, 0, 1)), Check.ARGUMENT);
    }

    private static void tellAct() {
        Sentence.of(3, "0 to 5");
        FlexiblePolicy p = Made.small(0);
        Check.due("0", p.tell(0, 0, 1000), true);
        Check.due("5", p.tell(0, 5, 1), true);
        Made.refuse("-1", Check.ARGUMENT, q -> q.tell(0, -1, 1));
        Made.refuse("6", Check.ARGUMENT, q -> q.tell(0, 6, 1));
        Made.refuse("the lowest", Check.ARGUMENT, q -> q.tell(q.month(), Integer.MIN_VALUE, 1));
        Made.refuse("the highest", Check.ARGUMENT, q -> q.tell(q.month(), Integer.MAX_VALUE, 1));
    }

    private static void tellAmount() {
        Sentence.of(3, "1 to 2000000; it does not matter for act 5, but for its range");
        FlexiblePolicy p = Made.small(0);
        Check.due("1", p.tell(0, 0, 1), true);
        Check.due("the account with 1", p.account(), 1);
        Check.due("2000000", p.tell(0, 0, 2000000), true);
        Check.due("the account with 2000000", p.account(), 2000001);
        for (int amount : new int[] {1, 100001, 2000000}) {
            FlexiblePolicy q = Made.small(0);
            Check.due("death with " + amount, q.tell(0, 5, amount), true);
            Check.due("what is paid with " + amount, q.paid(), 100000);
        }
        for (int kind = 0; kind <= 5; kind++) {
            int act = kind;
            Made.refuse("0 for act " + act, Check.ARGUMENT, q -> q.tell(q.month(), act, 0));
            Made.refuse("2000001 for act " + act, Check.ARGUMENT, q -> q.tell(q.month(), act, 2000001));
        }
        Made.refuse("-1", Check.ARGUMENT, q -> q.tell(0, 0, -1));
        Made.refuse("the lowest", Check.ARGUMENT, q -> q.tell(0, 0, Integer.MIN_VALUE));
        Made.refuse("the highest", Check.ARGUMENT, q -> q.tell(0, 0, Integer.MAX_VALUE));
    }

    private static void tellReturns() {
        Sentence.of(3, "Returns whether the act is done in that month.");
        FlexiblePolicy p = Made.small(1000);
        Check.due("not done", p.tell(0, 3, 1001), false);
        Check.due("done", p.tell(0, 3, 1000), true);
        p.close(2);
        Check.due("late and done", p.tell(0, 0, 1001), true);
        Check.due("late and not done", p.tell(0, 3, 1002), false);
        Check.due("not done then, though now it could be", p.tell(0, 4, 2000000), false);
        Check.due("done then, though now it could not", p.tell(0, 3, 1001), true);
        Check.due("in grace now", p.tell(2, 3, 1), false);
    }

    private static void tellThrowsArgument() {
        Sentence.of(3, "Throws `IllegalArgumentException` if month, act or amount is out of range");
        Made.refuse("month", Check.ARGUMENT, p -> p.tell(p.month() + 1, 5, 2000000));
        Made.refuse("act", Check.ARGUMENT, p -> p.tell(p.month(), 6, 2000000));
        Made.refuse("amount", Check.ARGUMENT, p -> p.tell(p.month(), 5, 2000001));
        Made.refuse("month and act", Check.ARGUMENT, p -> p.tell(-1, -1, 1));
        Made.refuse("act and amount", Check.ARGUMENT, p -> p.tell(0, 6, 0));
        Made.refuse("all", Check.ARGUMENT, p -> p.tell(-1, 6, 2000001));
        FlexiblePolicy q = Made.busy();
        Check.due("the greatest of all", Check.thrownBy(() -> q.tell(14, 5, 2000000)), Check.NOTHING);
        Check.due("the least of all", Check.thrownBy(() -> q.tell(0, 0, 1)), Check.NOTHING);
    }

    private static void tellThrowsState() {
        Sentence.of(3, "Throws `IllegalStateException` if 60 acts were told");
        FlexiblePolicy p = Made.small(0);
        for (int i = 0; i < 59; i++) {
            p.tell(0, i % 2 == 0 ? 0 : 1, 1);
        }
        Check.due("the 60th, with 59 told", p.tell(0, 0, 5), true);
        Check.due("60", p.acts(), 60);
        Check.due("the account of 30 premiums of 1 and one of 5", p.account(), 35);
        Check.due("a 61st", Check.thrownBy(() -> p.tell(0, 0, 5)), Check.STATE);
        Made.refuse("in the present month", Made::full, Check.STATE, q -> q.tell(2, 0, 1));
        Made.refuse("late", Made::full, Check.STATE, q -> q.tell(0, 0, 1));
        Made.refuse("one that would not be done", Made::full, Check.STATE, q -> q.tell(2, 3, 2000000));
        Made.refuse("a death", Made::full, Check.STATE, q -> q.tell(2, 5, 1));
        Made.refuse("all struck", CallCases::allStruck, Check.STATE, q -> q.tell(0, 0, 1));
        Made.refuse("lapsed", CallCases::fullAndLapsed, Check.STATE, q -> q.tell(30, 4, 2000000));
        FlexiblePolicy full = Made.full();
        full.begin(30, 100000, 0);
        Check.due("begun anew", full.tell(0, 0, 1), true);
    }

    private static FlexiblePolicy allStruck() {
        FlexiblePolicy p = Made.full();
        for (int number = 0; number < 59; number++) {
            p.strike(number);
        }
        return p;
    }

    private static FlexiblePolicy fullAndLapsed() {
        FlexiblePolicy p = Made.small(0);
        for (int i = 0; i < 60; i++) {
            p.tell(0, 0, 1);
        }
        Made.closeAll(p, 30);
        return p;
    }

    private static void strikes() {
        Sentence.of(4, "Strikes an act that was told.");
        FlexiblePolicy p = Made.small(5000);
        p.tell(0, 1, 1000);
        p.tell(0, 3, 4001);
        p.close(2);
        p.strike(1);
        Check.due("what it left no room for is done now", p.isDone(2), true);
        // 999 less 509, and 1 of interest.
        Check.due("the account, told anew", p.accountAt(1), 491);
        Check.due("the loan", p.loan(), 0);
        p.strike(2);
        // 5000 less 509 and 11; 4502 less 509 and 9.
        Check.due("as if it had never been told", p.account(), 4002);
        p.strike(0);
        Check.due("the last one", p.account(), 0);
        Check.due("in grace without it", p.grace(), 2);
        FlexiblePolicy undone = Made.small(100);
        undone.tell(0, 3, 101);
        Check.due("one that was not done", undone.strike(1), 0);
        Check.due("changes nothing", undone.account(), 100);
    }

    private static void strikeNumber() {
        Sentence.of(4, "acts are numbered from 0 as they were told; numbers of others stay");
        FlexiblePolicy p = Made.small(0);
        p.tell(0, 0, 1000);
        p.close(1);
        p.tell(1, 3, 1);
        p.tell(0, 3, 1);
        p.tell(1, 3, 1000);
        Check.due("0 is the first", p.strike(0), 0);
        Check.due("1 is the second, and stays it", p.strike(1), 1);
        Check.due("2 is the third, told late", p.strike(2), 0);
        Check.due("3 is the last", p.strike(3), 1);
        Check.due("the next one", p.tell(0, 0, 5), true);
        Check.due("is 4", p.isDone(4), true);
        Check.due("and no other", Check.thrownBy(() -> p.isDone(0)), Check.INDEX);
        FlexiblePolicy full = Made.small(0);
        for (int i = 0; i < 60; i++) {
            full.tell(0, i == 59 ? 3 : 0, 2000 + i);
        }
        Check.due("59 is the last of 60", full.isDone(59), true);
        int before = full.account();
        full.strike(59);
        Check.due("struck", full.account(), before + 2059);
        full.strike(58);
        Check.due("58", full.account(), before + 2059 - 2058);
    }

    private static void strikeReturns() {
        Sentence.of(4, "Returns its month.");
        FlexiblePolicy p = Made.inMonth(120);
        p.tell(0, 0, 1);
        p.tell(120, 0, 1);
        p.tell(119, 0, 1);
        Check.due("the last month", p.strike(2), 120);
        Check.due("the one ahead of it", p.strike(3), 119);
        Check.due("the first, told late", p.strike(1), 0);
        Check.due("the first", p.strike(0), 0);
    }

    private static void strikeThrows() {
        Sentence.of(4, "Throws `IndexOutOfBoundsException` if there never was such an act, or it was struck");
        refuseNumbers((p, number) -> p.strike(number));
        FlexiblePolicy p = Made.full();
        Check.due("0 of 60", Check.thrownBy(() -> p.strike(0)), Check.NOTHING);
        Check.due("58 of 60", Check.thrownBy(() -> p.strike(58)), Check.NOTHING);
        Check.due("it was struck", Check.thrownBy(() -> p.strike(58)), Check.INDEX);
    }

    /** The numbers that are refused are those on each side of the ones that there are. */
    private static void refuseNumbers(ByNumber call) {
        Made.refuse("-1", Check.INDEX, p -> call.on(p, -1));
        Made.refuse("as many as there are", Check.INDEX, p -> call.on(p, p.acts()));
        Made.refuse("60", Check.INDEX, p -> call.on(p, 60));
        Made.refuse("61", Check.INDEX, p -> call.on(p, 61));
        Made.refuse("the lowest", Check.INDEX, p -> call.on(p, Integer.MIN_VALUE));
        Made.refuse("the highest", Check.INDEX, p -> call.on(p, Integer.MAX_VALUE));
        Made.refuse("the first one of none", FlexiblePolicy::new, Check.INDEX, p -> call.on(p, 0));
        Made.refuse("a struck one", Made::busy, Check.INDEX, p -> call.on(p, 3));
        Made.refuse("a struck one, the 60th", Made::full, Check.INDEX, p -> call.on(p, 59));
        Made.refuse("each struck", CallCases::allStruck, Check.INDEX, p -> call.on(p, 0));
        Supplier<FlexiblePolicy> anew = () -> {
            FlexiblePolicy p = Made.full();
            p.begin(30, 100000, 0);
            p.tell(0, 0, 1);
            return p;
        };
        Made.refuse("one of the policy before", anew, Check.INDEX, p -> call.on(p, 1));
    }

    /** A call that takes an act's number. */
    private interface ByNumber {
        void on(FlexiblePolicy p, int number);
    }

    private static void isDone() {
        Sentence.of(5, "Tells whether an act is done.");
        FlexiblePolicy p = Made.small(1000);
        p.tell(0, 3, 1001);
        p.tell(0, 3, 1000);
        Check.due("the first", p.isDone(0), true);
        Check.due("above the free part", p.isDone(1), false);
        Check.due("all of the free part", p.isDone(2), true);
        p.close(3);
        Check.due("still, when its month is closed", p.isDone(2), true);
        p.tell(3, 4, 1530);
        Check.due("a revival", p.isDone(3), true);
        p.tell(0, 0, 600);
        // 600 less 509 are left: it is lapsed in month 4 alone.
        Check.due("a revival of what is not lapsed any more", p.isDone(3), false);
        Check.due("the late one", p.isDone(4), true);
        p.strike(0);
        Check.due("without the first", p.isDone(2), false);
        Check.due("asked again", p.isDone(2), false);
    }

    private static void isDoneThrows() {
        Sentence.of(5, "Throws `IndexOutOfBoundsException` if there never was such an act, or it was struck");
        refuseNumbers((p, number) -> p.isDone(number));
        FlexiblePolicy p = Made.full();
        Check.due("0 of 60", Check.thrownBy(() -> p.isDone(0)), Check.NOTHING);
        Check.due("58 of 60", Check.thrownBy(() -> p.isDone(58)), Check.NOTHING);
        p.strike(58);
        Check.due("it was struck", Check.thrownBy(() -> p.isDone(58)), Check.INDEX);
    }

    private static void acts() {
        Sentence.of(6, "Returns how many acts were told, struck ones included.");
        FlexiblePolicy p = Made.small(0);
        Check.due("none", p.acts(), 0);
        for (int i = 1; i <= 60; i++) {
            p.tell(0, i % 2 == 0 ? 0 : 3, i);
            Check.due("told", p.acts(), i);
        }
        Check.thrownBy(() -> p.tell(0, 0, 1));
        Check.due("one refused", p.acts(), 60);
        p.strike(59);
        p.strike(0);
        Check.due("with struck ones", p.acts(), 60);
        FlexiblePolicy one = Made.small(1);
        one.strike(0);
        Check.due("one, and that struck", one.acts(), 1);
        Check.thrownBy(() -> one.tell(0, 0, 0));
        Check.due("one out of range", one.acts(), 1);
        one.close(1);
        one.tell(0, 0, 1);
        Check.due("a late one", one.acts(), 2);
    }

    private static void closes() {
        Sentence.of(7, "Closes months.");
        FlexiblePolicy p = Made.small(5000);
        p.close(1);
        Check.due("one", p.account(), 4502);
        p.close(2);
        // 4502 less 509 and 9; 4002 less 509 and 8.
        Check.due("two more", p.account(), 3501);
        FlexiblePolicy once = Made.busy();
        FlexiblePolicy oneByOne = Made.busy();
        once.close(24);
        Made.closeAll(oneByOne, 24);
        Check.due("24 at once or one by one", Check.all(once).equals(Check.all(oneByOne)), true);
    }

    private static void closeMonths() {
        Sentence.of(7, "1 to 24");
        FlexiblePolicy p = Made.busy();
        Check.due("1", p.close(1), 15);
        Check.due("24", p.close(24), 39);
        Made.refuse("0", Check.ARGUMENT, q -> q.close(0));
        Made.refuse("25", Check.ARGUMENT, q -> q.close(25));
        Made.refuse("-1", Check.ARGUMENT, q -> q.close(-1));
        Made.refuse("the lowest", Check.ARGUMENT, q -> q.close(Integer.MIN_VALUE));
        Made.refuse("the highest", Check.ARGUMENT, q -> q.close(Integer.MAX_VALUE));
    }

    private static void closeReturns() {
        Sentence.of(7, "Returns the present month then.");
        FlexiblePolicy p = new FlexiblePolicy();
        Check.due("1 of 0", p.close(1), 1);
        Check.due("2 more", p.close(2), 3);
        Check.due("lapsed", p.close(24), 27);
        FlexiblePolicy ended = Made.ended();
        Check.due("ended", ended.close(5), 5);
        Check.due("the last month", Made.inMonth(119).close(1), 120);
    }

    private static void closeThrowsArgument() {
        Sentence.of(7, "Throws `IllegalArgumentException` if months is out of range");
        for (int present : new int[] {0, 96, 97, 120}) {
            Supplier<FlexiblePolicy> sort = () -> Made.inMonth(present);
            Made.refuse("none in month " + present, sort, Check.ARGUMENT, p -> p.close(0));
            Made.refuse("25 in month " + present, sort, Check.ARGUMENT, p -> p.close(25));
        }
        FlexiblePolicy p = Made.inMonth(72);
        Check.due("24", Check.thrownBy(() -> p.close(24)), Check.NOTHING);
        Check.due("1", Check.thrownBy(() -> p.close(1)), Check.NOTHING);
    }

    private static void closeThrowsState() {
        Sentence.of(7, "Throws `IllegalStateException` if more than 120 months would be closed");
        int[] presents = {96, 97, 110, 118, 119};
        for (int present : presents) {
            int left = 120 - present;
            Check.due(left + " in month " + present, Made.inMonth(present).close(left), 120);
            if (left < 24) {
                Supplier<FlexiblePolicy> sort = () -> Made.inMonth(present);
                Made.refuse("one more in month " + present, sort, Check.STATE, p -> p.close(left + 1));
            }
        }
        Supplier<FlexiblePolicy> last = () -> Made.inMonth(120);
        Made.refuse("1 in month 120", last, Check.STATE, p -> p.close(1));
        Made.refuse("24 in month 120", last, Check.STATE, p -> p.close(24));
        Made.refuse("1, lapsed", () -> Made.lapsedSince(117), Check.STATE, p -> p.close(1));
        Made.refuse("1, ended", CallCases::endedLongSince, Check.STATE, p -> p.close(1));
        FlexiblePolicy anew = Made.inMonth(120);
        anew.begin(30, 100000, 0);
        Check.due("begun anew", anew.close(24), 24);
    }

    private static FlexiblePolicy endedLongSince() {
        FlexiblePolicy p = Made.ended();
        Made.closeAll(p, 120);
        return p;
    }

    private static void month() {
        Sentence.of(8, "Returns the present month.");
        FlexiblePolicy p = Made.small(90000);
        for (int m = 0; m < 120; m++) {
            Check.due("as many as are closed", p.month(), m);
            p.close(1);
        }
        Check.due("the last one", p.month(), 120);
        Check.thrownBy(() -> p.close(1));
        Check.due("behind one that was refused", p.month(), 120);
        p.tell(3, 0, 1);
        p.strike(0);
        Check.due("behind late acts", p.month(), 120);
        p.begin(30, 100000, 0);
        Check.due("begun anew", p.month(), 0);
    }

    private static void firstOfTheThrowsClause() {
        Sentence.ofTerms(3, "When a call throws, nothing has changed; of several exceptions it is the first"
                + " one of the throws clause.");
        refuseFull("the month too low", p -> p.tell(-1, 0, 1));
        refuseFull("the month too high", p -> p.tell(3, 0, 1));
        refuseFull("the act too low", p -> p.tell(0, -1, 1));
        refuseFull("the act too high", p -> p.tell(2, 6, 1));
        refuseFull("the amount too low", p -> p.tell(0, 0, 0));
        refuseFull("the amount too high", p -> p.tell(2, 0, 2000001));
        Made.refuse("with 60 acts alone", Made::full, Check.STATE, p -> p.tell(0, 0, 1));
        Supplier<FlexiblePolicy> last = () -> Made.inMonth(120);
        Made.refuse("0 in month 120", last, Check.ARGUMENT, p -> p.close(0));
        Made.refuse("25 in month 120", last, Check.ARGUMENT, p -> p.close(25));
        Made.refuse("24 in month 120", last, Check.STATE, p -> p.close(24));
        Made.refuse("25 in month 96", () -> Made.inMonth(96), Check.ARGUMENT, p -> p.close(25));
    }

    private static void refuseFull(String what, Consumer<FlexiblePolicy> call) {
        Made.refuse("with 60 acts, " + what, Made::full, Check.ARGUMENT, call);
    }
}
