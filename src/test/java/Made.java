import java.util.ArrayList;
import java.util.List;
import java.util.function.Consumer;
import java.util.function.Supplier;

/** Policies in the states that the boundary tests begin with. */
final class Made {
    private Made() {
    }

    /**
     * Aged 30, with the sum 100000 and a premium in month 0. With an account from 1 to 10000
     * its charge is 509, with none 510.
     */
    static FlexiblePolicy small(int premium) {
        FlexiblePolicy p = new FlexiblePolicy();
        p.begin(30, 100000, 0);
        if (premium > 0) {
            p.tell(0, 0, premium);
        }
        return p;
    }

    /** A small one without an account, after some months: each adds 510 to the arrears, to 1530. */
    static FlexiblePolicy unpaid(int months) {
        FlexiblePolicy p = small(0);
        closeAll(p, months);
        return p;
    }

    /** A small one that has lapsed with the arrears 1530, and some months are closed since. */
    static FlexiblePolicy lapsedSince(int months) {
        return unpaid(3 + months);
    }

    /** In month 1 and in grace: account 3005, loan 3012, arrears 509, and the charge is 509. */
    static FlexiblePolicy heldBack() {
        FlexiblePolicy p = small(3000);
        p.tell(0, 1, 3000);
        p.close(1);
        return p;
    }

    static FlexiblePolicy ended() {
        FlexiblePolicy p = small(50000);
        p.tell(0, 1, 20000);
        p.tell(0, 5, 1);
        return p;
    }

    /** In force in month 24, with a loan that has outgrown the account and the death sum. */
    static FlexiblePolicy drowned() {
        FlexiblePolicy p = new FlexiblePolicy();
        p.begin(70, 100000, 0);
        p.tell(0, 0, 2000000);
        p.tell(0, 1, 2000000);
        for (int m = 1; m <= 24; m++) {
            p.close(1);
            if (p.arrears() > 0) {
                p.tell(m, 0, p.arrears());
            }
        }
        return p;
    }

    /** One with acts of several months, in its 14th month. */
    static FlexiblePolicy busy() {
        FlexiblePolicy p = new FlexiblePolicy();
        p.begin(45, 3000000, 1);
        p.tell(0, 0, 300000);
        p.close(7);
        p.tell(7, 1, 120000);
        p.tell(7, 3, 2000000);
        p.close(7);
        p.tell(3, 0, 5000);
        p.tell(14, 2, 1000);
        p.strike(3);
        return p;
    }

    /** In month 2, with 60 acts, one of them struck. */
    static FlexiblePolicy full() {
        FlexiblePolicy p = new FlexiblePolicy();
        p.close(2);
        for (int i = 0; i < 60; i++) {
            p.tell(i % 3, i % 5, 3000 + i);
        }
        p.strike(59);
        return p;
    }

    /** In force, in a month of one's choice. */
    static FlexiblePolicy inMonth(int month) {
        FlexiblePolicy p = new FlexiblePolicy();
        p.begin(40, 100000, 0);
        p.tell(0, 0, 2000000);
        closeAll(p, month);
        return p;
    }

    static void closeAll(FlexiblePolicy p, int months) {
        for (int i = 0; i < months; i++) {
            p.close(1);
        }
    }

    /** One of every sort. */
    static List<Supplier<FlexiblePolicy>> sorts() {
        List<Supplier<FlexiblePolicy>> all = new ArrayList<>();
        all.add(FlexiblePolicy::new);
        all.add(Made::busy);
        all.add(Made::full);
        all.add(Made::heldBack);
        all.add(Made::ended);
        all.add(() -> lapsedSince(2));
        all.add(() -> inMonth(119));
        all.add(() -> inMonth(120));
        return all;
    }

    /** On one of every sort the call throws just that, and nothing has changed behind it. */
    static void refuse(String what, int want, Consumer<FlexiblePolicy> call) {
        for (Supplier<FlexiblePolicy> sort : sorts()) {
            refuse(what, sort, want, call);
        }
    }

    /** What can't be asked at once shows in what comes: so another one goes on beside it. */
    static void refuse(String what, Supplier<FlexiblePolicy> sort, int want, Consumer<FlexiblePolicy> call) {
        FlexiblePolicy p = sort.get();
        FlexiblePolicy other = sort.get();
        Check.refused(what, p, want, () -> call.accept(p));
        goOn(p);
        goOn(other);
        Check.due(what + " changes nothing of what comes", Check.all(p).equals(Check.all(other)), true);
    }

    private static void goOn(FlexiblePolicy p) {
        Check.thrownBy(() -> p.tell(0, 0, 700));
        Check.thrownBy(() -> p.strike(0));
        Check.thrownBy(() -> p.close(1));
        Check.thrownBy(() -> p.tell(p.month(), 4, 9000));
        Check.thrownBy(() -> p.strike(2));
        Check.thrownBy(() -> p.tell(p.month(), 0, 100));
        Check.thrownBy(() -> p.close(2));
    }
}
