/**
 * A flexible life policy: an account that premiums fill, monthly charges, interest, loans,
 * a grace, lapse and revival, and a death sum that never falls below a corridor.
 */
public final class FlexiblePolicy {
    private static final int MOST_MONTHS = 120;
    private static final int MOST_CLOSED_AT_ONCE = 24;
    private static final int MOST_ACTS = 60;
    private static final int MOST_AMOUNT = 2000000;
    private static final int MOST_LOOKED_AHEAD = 120;
    private static final int MOST_NEEDED_AHEAD = 36;
    /** Two to this power is more than MOST_AMOUNT. */
    private static final int MOST_HALVINGS = 21;

    private static final int IN_FORCE = 0;
    private static final int IN_GRACE = 1;
    private static final int LAPSED = 2;
    private static final int ENDED = 3;

    private static final int PREMIUM = 0;
    private static final int LOAN = 1;
    private static final int REPAYMENT = 2;
    private static final int WITHDRAWAL = 3;
    private static final int REVIVAL = 4;
    private static final int DEATH = 5;

    private final Plan plan;
    private final ActBook book;
    private final History history;
    private final Standing now;
    /** Used again by every call that tries something out, so that no call makes objects. */
    private final Standing trial;
    private int present;

    public FlexiblePolicy() {
        plan = new Plan();
        book = new ActBook();
        history = new History();
        now = new Standing();
        trial = new Standing();
        present = 0;
    }

    // ---- the policy

    public int begin(int age, int sum, int kind) throws IllegalArgumentException {
        if (age < 18 || age > 70) {
            throw new IllegalArgumentException("the age is 18 to 70");
        }
        if (sum < 100000 || sum > 50000000) {
            throw new IllegalArgumentException("the sum is 100000 to 50000000");
        }
        if (kind < 0 || kind > 1) {
            throw new IllegalArgumentException("the kind is 0 or 1");
        }
        int closed = present;
        plan.agree(age, sum, kind);
        book.empty();
        now.startFresh();
        present = 0;
        return closed;
    }

    public boolean tell(int month, int act, int amount)
            throws IllegalArgumentException, IllegalStateException {
        if (month < 0 || month > present) {
            throw new IllegalArgumentException("the month is 0 to the present one");
        }
        if (act < PREMIUM || act > DEATH) {
            throw new IllegalArgumentException("the act is 0 to 5");
        }
        if (amount < 1 || amount > MOST_AMOUNT) {
            throw new IllegalArgumentException("the amount is 1 to 2000000");
        }
        if (book.isFull()) {
            throw new IllegalStateException("60 acts were told");
        }
        int number = book.write(month, act, amount);
        // An act comes behind those told before it for its month, so in the present one
        // nothing else changes.
        if (month == present) {
            book.noteDone(number, perform(number, now));
        } else {
            workOutFrom(month);
        }
        return book.wasDone(number);
    }

    public int strike(int number) throws IndexOutOfBoundsException {
        if (!book.stands(number)) {
            throw new IndexOutOfBoundsException("there is no such act");
        }
        int month = book.monthOf(number);
        book.cross(number);
        workOutFrom(month);
        return month;
    }

    public boolean isDone(int number) throws IndexOutOfBoundsException {
        if (!book.stands(number)) {
            throw new IndexOutOfBoundsException("there is no such act");
        }
        return book.wasDone(number);
    }

    public int acts() {
        return book.count;
    }

    public int close(int months) throws IllegalArgumentException, IllegalStateException {
        if (months < 1 || months > MOST_CLOSED_AT_ONCE) {
            throw new IllegalArgumentException("1 to 24 months are closed at once");
        }
        if (present + months > MOST_MONTHS) {
            throw new IllegalStateException("at most 120 months are closed");
        }
        for (int i = 0; i < months; i++) {
            endMonth(present, now);
            present++;
            history.keep(present, now);
        }
        return present;
    }

    public int month() {
        return present;
    }

    // ---- what is told

    public int state() {
        return now.state;
    }

    public int account() {
        return now.account;
    }

    public int loan() {
        return now.loan;
    }

    public int arrears() {
        return now.arrears;
    }

    public int deathSum() {
        return now.isLive() ? plan.deathSumFor(now.account, present) : 0;
    }

    public int paid() {
        return now.state == ENDED ? now.paid : -1;
    }

    public int charge() {
        return now.isLive() ? plan.chargeFor(now.account, present) : 0;
    }

    public int grace() {
        return now.grace;
    }

    public int corridor(int age) throws IllegalArgumentException {
        if (age < 18 || age > 120) {
            throw new IllegalArgumentException("the age is 18 to 120");
        }
        return plan.corridorFor(age);
    }

    public int accountAt(int month) throws IllegalArgumentException {
        if (month < 0 || month > present) {
            throw new IllegalArgumentException("the month is 0 to the present one");
        }
        history.recall(month, trial);
        return trial.account;
    }

    public int accountFromStart(int month) throws IllegalArgumentException {
        if (month < 0 || month > present) {
            throw new IllegalArgumentException("the month is 0 to the present one");
        }
        trial.startFresh();
        for (int m = 0; m < month; m++) {
            performAll(m, trial);
            endMonth(m, trial);
        }
        return trial.account;
    }

    public int stateAt(int month) throws IllegalArgumentException {
        if (month < 0 || month > present) {
            throw new IllegalArgumentException("the month is 0 to the present one");
        }
        history.recall(month, trial);
        return trial.state;
    }

    public int wouldLapse(int within) throws IllegalArgumentException {
        if (within < 1 || within > MOST_LOOKED_AHEAD) {
            throw new IllegalArgumentException("1 to 120 months are looked at");
        }
        if (!now.isLive()) {
            return -1;
        }
        return firstLapsed(0, within);
    }

    public int needed(int within) throws IllegalArgumentException {
        if (within < 1 || within > MOST_NEEDED_AHEAD) {
            throw new IllegalArgumentException("1 to 36 months are looked at");
        }
        if (!now.isLive()) {
            return -1;
        }
        if (firstLapsed(0, within) == -1) {
            return 0;
        }
        if (firstLapsed(MOST_AMOUNT, within) != -1) {
            return -1;
        }
        return leastPremium(within);
    }

    // ---- how it is worked out

    /**
     * Halves the premiums between one that lapses and one that does not. A greater premium
     * never lapses earlier: NOTES.md says why.
     */
    private int leastPremium(int within) {
        int tooLittle = 0;
        int enough = MOST_AMOUNT;
        for (int i = 0; i < MOST_HALVINGS && enough - tooLittle > 1; i++) {
            int middle = tooLittle + (enough - tooLittle) / 2;
            if (firstLapsed(middle, within) == -1) {
                enough = middle;
            } else {
                tooLittle = middle;
            }
        }
        return enough;
    }

    /** The first lapsed month of those behind the present one, with a premium (0: none) now. */
    private int firstLapsed(int premium, int within) {
        trial.copy(now);
        if (premium > 0) {
            trial.takePremium(premium);
        }
        for (int m = present; m < present + within; m++) {
            endMonth(m, trial);
            if (trial.state == LAPSED) {
                return m + 1;
            }
        }
        return -1;
    }

    private void workOutFrom(int month) {
        history.recall(month, now);
        for (int m = month; m < present; m++) {
            performAndNote(m);
            endMonth(m, now);
            history.keep(m + 1, now);
        }
        performAndNote(present);
    }

    private void performAndNote(int month) {
        for (int number = 0; number < book.count; number++) {
            if (book.standsIn(number, month)) {
                book.noteDone(number, perform(number, now));
            }
        }
    }

    private void performAll(int month, Standing standing) {
        for (int number = 0; number < book.count; number++) {
            if (book.standsIn(number, month)) {
                perform(number, standing);
            }
        }
    }

    private boolean perform(int number, Standing standing) {
        int month = book.monthOf(number);
        int amount = book.amountOf(number);
        switch (book.kindOf(number)) {
            case PREMIUM:
                return standing.takePremium(amount);
            case LOAN:
                return standing.lend(amount);
            case REPAYMENT:
                return standing.repay(amount);
            case WITHDRAWAL:
                return standing.withdraw(amount);
            case REVIVAL:
                return standing.revive(amount, month);
            case DEATH:
                return standing.die(plan.deathSumFor(standing.account, month));
            default:
                return false;
        }
    }

    private void endMonth(int month, Standing standing) {
        if (standing.isLive()) {
            standing.settle(plan.chargeFor(standing.account, month), month);
            standing.addInterest();
        }
    }

    /** What was agreed on at the beginning, and the sums that follow from it. */
    private static final class Plan {
        int startAge;
        int insured;
        int kind;

        Plan() {
            startAge = 30;
            insured = 5000000;
            kind = 0;
        }

        void agree(int newAge, int newSum, int newKind) {
            startAge = newAge;
            insured = newSum;
            kind = newKind;
        }

        int ageIn(int month) {
            return startAge + month / 12;
        }

        int corridorFor(int age) {
            if (age <= 40) {
                return 250;
            }
            return age >= 69 ? 105 : 250 - 5 * (age - 40);
        }

        int rateFor(int age) {
            return age <= 30 ? 10 : 10 + 2 * (age - 30);
        }

        int deathSumFor(int account, int month) {
            long agreed = kind == 1 ? (long) insured + account : insured;
            long least = (long) account * corridorFor(ageIn(month)) / 100;
            return (int) Math.max(agreed, least);
        }

        int chargeFor(int account, int month) {
            long atRisk = Math.max(0, deathSumFor(account, month) - account);
            return (int) (500 + atRisk * rateFor(ageIn(month)) / 100000);
        }
    }

    /** Where a policy stands at one time. */
    private static final class Standing {
        int state;
        int account;
        int loan;
        int arrears;
        /** 0 in every state but IN_GRACE. */
        int grace;
        /** The first month at whose beginning it was lapsed; of use while it is lapsed. */
        int lapsedFrom;
        int paid;

        Standing() {
            state = IN_FORCE;
        }

        void startFresh() {
            state = IN_FORCE;
            account = 0;
            loan = 0;
            arrears = 0;
            grace = 0;
            lapsedFrom = 0;
            paid = 0;
        }

        void copy(Standing other) {
            state = other.state;
            account = other.account;
            loan = other.loan;
            arrears = other.arrears;
            grace = other.grace;
            lapsedFrom = other.lapsedFrom;
            paid = other.paid;
        }

        boolean isLive() {
            return state == IN_FORCE || state == IN_GRACE;
        }

        int freePart() {
            return Math.max(0, account - loan);
        }

        boolean takePremium(int amount) {
            if (!isLive()) {
                return false;
            }
            int toArrears = Math.min(amount, arrears);
            arrears -= toArrears;
            account += amount - toArrears;
            if (arrears == 0) {
                putInForce();
            }
            return true;
        }

        boolean lend(int amount) {
            if (state != IN_FORCE || amount > freePart()) {
                return false;
            }
            loan += amount;
            return true;
        }

        boolean repay(int amount) {
            if (!isLive() || amount > loan) {
                return false;
            }
            loan -= amount;
            return true;
        }

        boolean withdraw(int amount) {
            if (state != IN_FORCE || amount > freePart()) {
                return false;
            }
            account -= amount;
            return true;
        }

        boolean revive(int amount, int month) {
            if (state != LAPSED) {
                return false;
            }
            int closedSince = month - lapsedFrom;
            int due = arrears + 500 * closedSince;
            if (closedSince >= 24 || amount < due) {
                return false;
            }
            account += amount - due;
            arrears = 0;
            putInForce();
            return true;
        }

        boolean die(int deathSum) {
            if (!isLive()) {
                return false;
            }
            paid = Math.max(0, deathSum - loan);
            state = ENDED;
            grace = 0;
            return true;
        }

        void putInForce() {
            state = IN_FORCE;
            grace = 0;
        }

        void settle(int charge, int month) {
            if (freePart() >= charge + arrears) {
                account -= charge + arrears;
                arrears = 0;
                putInForce();
                return;
            }
            arrears += charge;
            state = IN_GRACE;
            grace++;
            if (grace == 3) {
                lapse(month);
            }
        }

        void lapse(int month) {
            state = LAPSED;
            grace = 0;
            account = 0;
            loan = 0;
            lapsedFrom = month + 1;
        }

        /** With the account and the loan 0, as with a lapse, there is none. */
        void addInterest() {
            long held = Math.min(account, loan);
            long rest = account - held;
            long low = Math.min(rest, 1000000);
            long high = rest - low;
            account += (int) ((2 * held + 3 * low + 4 * high) / 1200);
            loan += (int) (5L * loan / 1200);
        }
    }

    /** The acts as they were told; a struck one keeps its number. */
    private static final class ActBook {
        int count;
        final int[] months;
        final int[] kinds;
        final int[] amounts;
        final boolean[] struck;
        final boolean[] done;

        ActBook() {
            count = 0;
            months = new int[MOST_ACTS];
            kinds = new int[MOST_ACTS];
            amounts = new int[MOST_ACTS];
            struck = new boolean[MOST_ACTS];
            done = new boolean[MOST_ACTS];
        }

        void empty() {
            count = 0;
        }

        boolean isFull() {
            return count >= MOST_ACTS;
        }

        boolean has(int number) {
            return number >= 0 && number < count && number < MOST_ACTS;
        }

        /** Its number, or -1 where no room is left. */
        int write(int month, int kind, int amount) {
            if (count < 0 || count >= MOST_ACTS) {
                return -1;
            }
            int number = count;
            months[number] = month;
            kinds[number] = kind;
            amounts[number] = amount;
            struck[number] = false;
            count++;
            return number;
        }

        void cross(int number) {
            if (has(number)) {
                struck[number] = true;
            }
        }

        boolean stands(int number) {
            return has(number) && !struck[number];
        }

        boolean standsIn(int number, int month) {
            return stands(number) && months[number] == month;
        }

        int monthOf(int number) {
            return has(number) ? months[number] : -1;
        }

        int kindOf(int number) {
            return has(number) ? kinds[number] : -1;
        }

        int amountOf(int number) {
            return has(number) ? amounts[number] : 0;
        }

        void noteDone(int number, boolean wasDone) {
            if (has(number)) {
                done[number] = wasDone;
            }
        }

        boolean wasDone(int number) {
            return has(number) && done[number];
        }
    }

    /**
     * Where the policy stood at the beginning of every month, before that month's acts. Row 0
     * is never written: it is all 0, as every policy begins.
     */
    private static final class History {
        static final int ROWS = MOST_MONTHS + 1;

        final int[] states;
        final int[] accounts;
        final int[] loans;
        final int[] arrearsRows;
        final int[] graces;
        final int[] lapsedFroms;
        final int[] paids;

        History() {
            states = new int[ROWS];
            accounts = new int[ROWS];
            loans = new int[ROWS];
            arrearsRows = new int[ROWS];
            graces = new int[ROWS];
            lapsedFroms = new int[ROWS];
            paids = new int[ROWS];
        }

        boolean hasRow(int month) {
            return month >= 0 && month < ROWS;
        }

        void keep(int month, Standing standing) {
            if (hasRow(month)) {
                states[month] = standing.state;
                accounts[month] = standing.account;
                loans[month] = standing.loan;
                arrearsRows[month] = standing.arrears;
                graces[month] = standing.grace;
                lapsedFroms[month] = standing.lapsedFrom;
                paids[month] = standing.paid;
            }
        }

        void recall(int month, Standing standing) {
            if (hasRow(month)) {
                standing.state = states[month];
                standing.account = accounts[month];
                standing.loan = loans[month];
                standing.arrears = arrearsRows[month];
                standing.grace = graces[month];
                standing.lapsedFrom = lapsedFroms[month];
                standing.paid = paids[month];
            }
        }
    }
}
