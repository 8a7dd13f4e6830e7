import java.util.ArrayList;
import java.util.List;

/**
 * The document once more, written without any thought of speed: every answer is worked out
 * from month 0 on. It knows no wrong inputs; the tests give it right ones alone.
 */
final class PlainPolicy {
    private static final class Act {
        int month;
        int kind;
        long amount;
        boolean struck;
        boolean done;
    }

    private static final class Picture {
        long account;
        long loan;
        long arrears;
        long paid = -1;
        int state;
        int grace;
        int closedSinceLapse;
    }

    private int age = 30;
    private long sum = 5000000;
    private int kind = 0;
    private int present = 0;
    private List<Act> acts = new ArrayList<>();

    int begin(int newAge, int newSum, int newKind) {
        int was = present;
        age = newAge;
        sum = newSum;
        kind = newKind;
        present = 0;
        acts = new ArrayList<>();
        return was;
    }

    boolean tell(int month, int act, int amount) {
        Act a = new Act();
        a.month = month;
        a.kind = act;
        a.amount = amount;
        acts.add(a);
        pictureNow();
        return a.done;
    }

    int strike(int number) {
        acts.get(number).struck = true;
        pictureNow();
        return acts.get(number).month;
    }

    boolean isStruck(int number) {
        return acts.get(number).struck;
    }

    boolean isDone(int number) {
        pictureNow();
        return acts.get(number).done;
    }

    int acts() {
        return acts.size();
    }

    int close(int months) {
        present += months;
        return present;
    }

    int month() {
        return present;
    }

    int state() {
        return pictureNow().state;
    }

    long account() {
        return pictureNow().account;
    }

    long loan() {
        return pictureNow().loan;
    }

    long arrears() {
        return pictureNow().arrears;
    }

    long deathSum() {
        Picture p = pictureNow();
        return p.state >= 2 ? 0 : sumAtDeath(p.account, present);
    }

    long paid() {
        return pictureNow().paid;
    }

    long charge() {
        Picture p = pictureNow();
        return p.state >= 2 ? 0 : chargeOf(p, present);
    }

    int grace() {
        Picture p = pictureNow();
        return p.state == 1 ? p.grace : 0;
    }

    long accountAt(int month) {
        return beginningOf(month).account;
    }

    int stateAt(int month) {
        return beginningOf(month).state;
    }

    int wouldLapse(int within) {
        return lapsing(0, within);
    }

    /** Whether it would stay unlapsed with a premium told now. */
    boolean holds(long premium, int within) {
        return state() < 2 && lapsing(premium, within) == -1;
    }

    private int lapsing(long premium, int within) {
        Picture p = pictureNow();
        if (p.state >= 2) {
            return -1;
        }
        if (premium > 0) {
            happen(p, 0, premium, present);
        }
        for (int m = present; m < present + within; m++) {
            closing(p, m);
            if (p.state == 2) {
                return m + 1;
            }
        }
        return -1;
    }

    private Picture beginningOf(int month) {
        Picture p = new Picture();
        for (int m = 0; m < month; m++) {
            actsOf(p, m);
            closing(p, m);
        }
        return p;
    }

    private Picture pictureNow() {
        Picture p = beginningOf(present);
        actsOf(p, present);
        return p;
    }

    private void actsOf(Picture p, int month) {
        for (Act a : acts) {
            if (!a.struck && a.month == month) {
                a.done = happen(p, a.kind, a.amount, month);
            }
        }
    }

    private static long free(Picture p) {
        return p.account > p.loan ? p.account - p.loan : 0;
    }

    private boolean happen(Picture p, int what, long amount, int month) {
        boolean lapsedOrEnded = p.state == 2 || p.state == 3;
        if (what == 0 && !lapsedOrEnded) {
            while (p.arrears > 0 && amount > 0) {
                long part = amount < p.arrears ? amount : p.arrears;
                p.arrears -= part;
                amount -= part;
            }
            p.account += amount;
            if (p.state == 1 && p.arrears == 0) {
                p.state = 0;
                p.grace = 0;
            }
            return true;
        }
        if (what == 1 && p.state == 0 && amount <= free(p)) {
            p.loan += amount;
            return true;
        }
        if (what == 2 && !lapsedOrEnded && amount <= p.loan) {
            p.loan -= amount;
            return true;
        }
        if (what == 3 && p.state == 0 && amount <= free(p)) {
            p.account -= amount;
            return true;
        }
        if (what == 4 && p.state == 2 && p.closedSinceLapse < 24
                && amount >= p.arrears + 500L * p.closedSinceLapse) {
            p.account = amount - p.arrears - 500L * p.closedSinceLapse;
            p.arrears = 0;
            p.state = 0;
            p.grace = 0;
            return true;
        }
        if (what == 5 && !lapsedOrEnded) {
            long left = sumAtDeath(p.account, month) - p.loan;
            p.paid = left < 0 ? 0 : left;
            p.state = 3;
            return true;
        }
        return false;
    }

    private void closing(Picture p, int month) {
        if (p.state == 3) {
            return;
        }
        if (p.state == 2) {
            p.closedSinceLapse++;
            return;
        }
        long charge = chargeOf(p, month);
        if (free(p) >= charge + p.arrears) {
            p.account = p.account - charge - p.arrears;
            p.arrears = 0;
            p.grace = 0;
            p.state = 0;
        } else {
            p.arrears += charge;
            p.grace = p.state == 0 ? 1 : p.grace + 1;
            p.state = p.grace == 3 ? 2 : 1;
        }
        if (p.state == 2) {
            p.account = 0;
            p.loan = 0;
            p.closedSinceLapse = 0;
            return;
        }
        long heldBack = p.account < p.loan ? p.account : p.loan;
        long rest = p.account - heldBack;
        long year = 2 * heldBack;
        year += rest <= 1000000 ? 3 * rest : 3000000 + 4 * (rest - 1000000);
        p.account += year / 1200;
        p.loan += 5 * p.loan / 1200;
    }

    private long chargeOf(Picture p, int month) {
        long risk = sumAtDeath(p.account, month) - p.account;
        int years = age + month / 12;
        long rate = years > 30 ? 10 + (years - 30) * 2L : 10;
        return 500 + (risk < 0 ? 0 : risk) * rate / 100000;
    }

    private long sumAtDeath(long account, int month) {
        int years = age + month / 12;
        long corridor = 250;
        for (int y = 41; y <= years && corridor > 105; y++) {
            corridor -= 5;
        }
        long agreed = sum + (kind == 1 ? account : 0);
        long least = account * corridor / 100;
        return agreed > least ? agreed : least;
    }
}
