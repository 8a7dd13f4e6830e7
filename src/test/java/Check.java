/** Counts the answers that are not due, for one test program. */
final class Check {
    static final int NOTHING = 0;
    static final int ARGUMENT = 1;
    static final int STATE = 2;
    static final int INDEX = 3;

    private static int wrong = 0;
    private static int asked = 0;
    private static String subject = "";

    private Check() {
    }

    /** What the answers from here on are about; it stands ahead of each that is not as due. */
    static void about(String words) {
        subject = words + ": ";
    }

    static void due(String what, long got, long want) {
        asked++;
        if (got != want) {
            wrong++;
            System.out.println(subject + what + ": got " + got + ", due is " + want);
        }
    }

    static void due(String what, boolean got, boolean want) {
        due(what, got ? 1 : 0, want ? 1 : 0);
    }

    /** Which exception the call throws; the exact class counts. */
    static int thrownBy(Runnable call) {
        try {
            call.run();
        } catch (RuntimeException e) {
            if (e.getClass() == IllegalArgumentException.class) {
                return ARGUMENT;
            }
            if (e.getClass() == IllegalStateException.class) {
                return STATE;
            }
            if (e.getClass() == IndexOutOfBoundsException.class) {
                return INDEX;
            }
            System.out.println("thrown: " + e);
            return -1;
        }
        return NOTHING;
    }

    /** Everything that can be asked without a change, as one text. */
    static String all(FlexiblePolicy p) {
        StringBuilder text = new StringBuilder();
        text.append(p.month()).append(' ').append(p.acts()).append(' ').append(p.state());
        text.append(" account ").append(p.account()).append(" loan ").append(p.loan());
        text.append(" arrears ").append(p.arrears()).append(" death ").append(p.deathSum());
        text.append(" paid ").append(p.paid()).append(" charge ").append(p.charge());
        text.append(" grace ").append(p.grace());
        text.append(" lapse ").append(p.wouldLapse(120)).append(" needed ").append(p.needed(36));
        for (int m = 0; m <= p.month(); m++) {
            text.append(" | ").append(p.accountAt(m)).append(' ').append(p.accountFromStart(m));
            text.append(' ').append(p.stateAt(m));
        }
        text.append(" done");
        for (int number = 0; number < p.acts(); number++) {
            final int asked = number;
            boolean gone = thrownBy(() -> p.isDone(asked)) != NOTHING;
            text.append(' ').append(gone ? "-" : p.isDone(number) ? "1" : "0");
        }
        return text.toString();
    }

    /** The call throws just that, and nothing has changed behind it. */
    static void refused(String what, FlexiblePolicy p, int want, Runnable call) {
        String before = all(p);
        due(what + " throws", thrownBy(call), want);
        boolean same = before.equals(all(p));
        due(what + " changes nothing", same, true);
    }

    static void end(String test) {
        System.out.println(test + ": " + asked + " answers, " + wrong + " not as due");
        if (wrong != 0) {
            System.exit(1);
        }
    }
}
