/** Long runs of calls, each answer beside that of PlainPolicy. The runs are always the same. */
public final class AgainstPlainTest {
    private static final int RUNS = 400;
    private static final int CHANGES = 45;

    private static long seed = 20261120;
    private static int lapses = 0;
    private static int revivals = 0;

    public static void main(String[] args) {
        for (int run = 0; run < RUNS; run++) {
            oneRun("run " + run);
        }
        Check.due("some lapse", lapses > 50, true);
        Check.due("some are revived", revivals > 50, true);
        neededOneByOne();
        Check.end("AgainstPlainTest");
    }

    private static int upTo(int bound) {
        seed = seed * 6364136223846793005L + 1442695040888963407L;
        return (int) ((seed >>> 33) % bound);
    }

    private static int oneOf(int... choices) {
        return choices[upTo(choices.length)];
    }

    private static void oneRun(String name) {
        FlexiblePolicy p = new FlexiblePolicy();
        PlainPolicy q = new PlainPolicy();
        if (upTo(8) > 0) {
            begin(name, p, q);
        }
        int patience = oneOf(2, 2, 5, 20);
        for (int i = 0; i < CHANGES; i++) {
            String step = name + " step " + i;
            change(step, p, q, patience);
            compare(step, p, q);
        }
        compareWhole(name, p, q);
    }

    private static void begin(String step, FlexiblePolicy p, PlainPolicy q) {
        int age = oneOf(18, 29, 30, 38, 39, 45, 66, 67, 70);
        int sum = oneOf(100000, 500000, 5000000, 50000000);
        int kind = upTo(2);
        Check.due(step + " begin", p.begin(age, sum, kind), q.begin(age, sum, kind));
    }

    private static void change(String step, FlexiblePolicy p, PlainPolicy q, int patience) {
        int what = upTo(20);
        if (what == 0 && upTo(10) == 0) {
            begin(step, p, q);
        } else if (what < 6) {
            int months = Math.min(1 + upTo(patience), 120 - p.month());
            if (months > 0) {
                Check.due(step + " close", p.close(months), q.close(months));
            }
        } else if (what < 8 && p.acts() > 0) {
            int number = upTo(p.acts());
            if (!q.isStruck(number)) {
                Check.due(step + " strike", p.strike(number), q.strike(number));
            }
        } else if (p.acts() < 60) {
            tell(step, p, q);
        }
    }

    private static void tell(String step, FlexiblePolicy p, PlainPolicy q) {
        int month = upTo(3) > 0 ? p.month() : upTo(p.month() + 1);
        int act = p.state() == 2 && upTo(3) > 0 ? 4 : oneOf(0, 0, 0, 1, 1, 2, 3, 4);
        if (upTo(60) == 0) {
            act = 5;
        }
        int amount = Math.max(1, Math.min(2000000, amountFor(act, p)));
        boolean done = p.tell(month, act, amount);
        Check.due(step + " tell " + month + " " + act + " " + amount, done, q.tell(month, act, amount));
        if (done && act == 4) {
            revivals++;
        }
    }

    private static int amountFor(int act, FlexiblePolicy p) {
        int near = upTo(3) - 1;
        int free = Math.max(0, p.account() - p.loan());
        switch (act) {
            case 0:
                return oneOf(upTo(2000), p.charge() + near, p.charge() * 3, p.arrears() + near,
                        upTo(100000), upTo(2000000), 2000000);
            case 1:
            case 3:
                return oneOf(free + near, free / 2, free - p.charge() + near, free - 500);
            case 2:
                return oneOf(p.loan() + near, p.loan() / 2);
            default:
                return p.arrears() + 500 * upTo(25) + near + oneOf(0, 5000, 100000);
        }
    }

    private static void compare(String step, FlexiblePolicy p, PlainPolicy q) {
        Check.due(step + " month", p.month(), q.month());
        Check.due(step + " acts", p.acts(), q.acts());
        Check.due(step + " state", p.state(), q.state());
        Check.due(step + " account", p.account(), q.account());
        Check.due(step + " loan", p.loan(), q.loan());
        Check.due(step + " arrears", p.arrears(), q.arrears());
        Check.due(step + " deathSum", p.deathSum(), q.deathSum());
        Check.due(step + " paid", p.paid(), q.paid());
        Check.due(step + " charge", p.charge(), q.charge());
        Check.due(step + " grace", p.grace(), q.grace());
        int month = upTo(p.month() + 1);
        Check.due(step + " accountAt " + month, p.accountAt(month), q.accountAt(month));
        Check.due(step + " fromStart " + month, p.accountFromStart(month), q.accountAt(month));
        Check.due(step + " stateAt " + month, p.stateAt(month), q.stateAt(month));
        int within = oneOf(1, 2, 3, 1 + upTo(120), 120);
        Check.due(step + " wouldLapse " + within, p.wouldLapse(within), q.wouldLapse(within));
        compareNeeded(step, p, q, oneOf(1, 2, 3, 1 + upTo(36), 36));
        lapses += p.state() == 2 ? 1 : 0;
    }

    private static void compareNeeded(String step, FlexiblePolicy p, PlainPolicy q, int within) {
        int needed = p.needed(within);
        String what = step + " needed " + within + " = " + needed;
        if (p.state() >= 2) {
            Check.due(what, needed, -1);
            return;
        }
        if (needed != -1) {
            Check.due(what + " holds", q.holds(needed, within), true);
        }
        int least = needed == -1 ? 2000001 : needed;
        if (least > 0) {
            Check.due(what + " is least", q.holds(least - 1, within), false);
            Check.due(what + " none less", q.holds(upTo(least), within), false);
        }
    }

    private static void compareWhole(String name, FlexiblePolicy p, PlainPolicy q) {
        for (int m = 0; m <= p.month(); m++) {
            Check.due(name + " accountAt " + m, p.accountAt(m), q.accountAt(m));
            Check.due(name + " fromStart " + m, p.accountFromStart(m), q.accountAt(m));
            Check.due(name + " stateAt " + m, p.stateAt(m), q.stateAt(m));
        }
        for (int number = 0; number < p.acts(); number++) {
            if (!q.isStruck(number)) {
                Check.due(name + " isDone " + number, p.isDone(number), q.isDone(number));
            }
        }
    }

    /** Every lesser premium looked at, not the neighbour alone. */
    private static void neededOneByOne() {
        for (int i = 0; i < 40; i++) {
            FlexiblePolicy p = new FlexiblePolicy();
            PlainPolicy q = new PlainPolicy();
            begin("one by one " + i, p, q);
            int first = upTo(40000) + 1;
            p.tell(0, 0, first);
            q.tell(0, 0, first);
            int months = 1 + upTo(6);
            p.close(months);
            q.close(months);
            int within = 1 + upTo(12);
            int needed = p.needed(within);
            if (needed < 0 || needed > 60000) {
                continue;
            }
            int least = 0;
            while (least < needed && !q.holds(least, within)) {
                least++;
            }
            Check.due("one by one " + i, needed, q.state() >= 2 ? -1 : least);
        }
    }
}
