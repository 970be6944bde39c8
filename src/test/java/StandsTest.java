/** Promises 12 to 16: state, tries, asked, granted, allowed. */
public final class StandsTest {
    public static void main(String[] args) {
        statesAreToldByTheirNumbers();
        triesStayBehindClosing();
        askedValuesStayBehindClosing();
        grantedInHeardAndOpenedOnly();
        allowedInToldAndOpenedOnly();
        allowedIsOfTheLastRequest();
        allowedIsNoneForWhatWasNotAsked();
        yesThatIsLostAllowsAllTheSame();
        Check.finish();
    }

    private static void statesAreToldByTheirNumbers() {
        int[] tries = {0, 9, 9, 9, 10, 9, 0, 7};
        for (int state = OptionWire.CLOSED; state <= OptionWire.LOOPED; state++) {
            for (int end = 0; end <= 1; end++) {
                OptionWire wire = States.wireWithEndIn(end, state);
                Check.same("tries in state " + state, wire.tries(end), tries[state]);
            }
        }
    }

    private static void triesStayBehindClosing() {
        OptionWire wire = States.wireWithEndIn(1, OptionWire.OPENED);
        wire.close(1);
        Check.same("tries when CLOSING", wire.tries(1), 10);
        Check.play(wire, "t6");
        Check.same("tries when CLOSED", wire.tries(1), 10);
    }

    private static void askedValuesStayBehindClosing() {
        OptionWire wire = new OptionWire();
        wire.wish(1, 0, 0, 0, 0);
        wire.wish(1, 3, 100, 100, 100);
        Check.same("asked before open()", Check.asked(wire, 1), "-1 -1 -1 -1");
        Check.openBoth(wire);
        Check.same("asked when OPENED", Check.asked(wire, 1), "0 -1 -1 100");
        Check.play(wire, "c1 t6");
        Check.same("asked when CLOSED", Check.asked(wire, 1), "0 -1 -1 100");
    }

    private static OptionWire wireWithValues() {
        OptionWire wire = new OptionWire();
        wire.wish(0, 0, 10, 0, 100);
        wire.wish(0, 1, 0, 0, 100);
        wire.wish(1, 1, 21, 0, 100);
        wire.wish(1, 2, 22, 0, 100);
        return wire;
    }

    private static String granted(OptionWire wire, int end) {
        return wire.granted(end, 0) + " " + wire.granted(end, 1) + " "
                + wire.granted(end, 2) + " " + wire.granted(end, 3);
    }

    private static String allowed(OptionWire wire, int end) {
        return wire.allowed(end, 0) + " " + wire.allowed(end, 1) + " "
                + wire.allowed(end, 2) + " " + wire.allowed(end, 3);
    }

    private static void grantedInHeardAndOpenedOnly() {
        OptionWire wire = wireWithValues();
        String none = "-1 -1 -1 -1";
        Check.same("granted when CLOSED", granted(wire, 0), none);
        Check.play(wire, "o0:1 t1 o1:2");
        Check.same("granted when ASKING", granted(wire, 0), none);
        Check.play(wire, "d1");
        Check.same("granted when TOLD", granted(wire, 1), none);
        Check.play(wire, "l0 d0");
        Check.same("granted when HEARD", granted(wire, 0), "10 0 -1 -1");
        Check.play(wire, "t1");
        Check.same("state", wire.state(0), OptionWire.HEARD);
        wire = wireWithValues();
        Check.openBoth(wire);
        Check.same("granted when OPENED", granted(wire, 0), "10 0 -1 -1");
        Check.same("granted when OPENED", granted(wire, 1), "-1 21 22 -1");
        Check.play(wire, "c1");
        Check.same("granted when CLOSING", granted(wire, 1), none);
        Check.play(wire, "d0");
        Check.same("granted when CLOSED", granted(wire, 0), none);
        grantedWhenFailedOrLooped();
    }

    private static void grantedWhenFailedOrLooped() {
        OptionWire failed = wireWithValues();
        Check.play(failed, "o0:1 t30");
        Check.same("granted when FAILED", failed.granted(0, 0), -1);
        Check.same("asked when FAILED", failed.asked(0, 0), 10);
        OptionWire looped = wireWithValues();
        Check.openBoth(looped);
        Check.play(looped, "c0 t6 l1 l1 l1 o0:2 t6 d1 d1 d1");
        Check.same("state", looped.state(1), OptionWire.LOOPED);
        Check.same("granted when LOOPED", looped.granted(1, 1), -1);
        Check.same("allowed when LOOPED", looped.allowed(1, 0), -1);
        Check.same("asked when LOOPED", looped.asked(1, 1), 21);
    }

    private static void allowedInToldAndOpenedOnly() {
        OptionWire wire = wireWithValues();
        String none = "-1 -1 -1 -1";
        Check.same("allowed when CLOSED", allowed(wire, 1), none);
        Check.play(wire, "o0:1 t1 o1:2");
        Check.same("allowed when ASKING", allowed(wire, 1), none);
        Check.play(wire, "d1");
        Check.same("allowed when TOLD", allowed(wire, 1), "10 0 -1 -1");
        Check.play(wire, "l0 d0");
        Check.same("allowed when HEARD", allowed(wire, 0), none);
        wire = wireWithValues();
        Check.openBoth(wire);
        Check.same("allowed when OPENED", allowed(wire, 1), "10 0 -1 -1");
        Check.same("allowed when OPENED", allowed(wire, 0), "-1 21 22 -1");
        Check.play(wire, "c1");
        Check.same("allowed when CLOSING", allowed(wire, 1), none);
        Check.play(wire, "d0");
        Check.same("allowed when CLOSED", allowed(wire, 0), none);
        allowedIsNotThatOfASessionBefore();
    }

    private static void allowedIsNotThatOfASessionBefore() {
        OptionWire wire = wireWithValues();
        Check.openBoth(wire);
        Check.play(wire, "c1 t6 o1:2");
        Check.same("allowed when ASKING again", allowed(wire, 1), "-1 -1 -1 -1");
    }

    private static void allowedIsOfTheLastRequest() {
        OptionWire wire = wireWithValues();
        wire.refuse(1, 3, true);
        Check.openBoth(wire);
        Check.play(wire, "c0 t6 l1 l1 l1");
        wire.wish(0, 0, -1, 0, 100);
        wire.wish(0, 1, 77, 0, 100);
        Check.play(wire, "o0:1 d1");
        Check.same("state", wire.state(1), OptionWire.TOLD);
        Check.same("allowed behind the second request", allowed(wire, 1), "-1 77 -1 -1");
    }

    private static void allowedIsNoneForWhatWasNotAsked() {
        OptionWire wire = new OptionWire();
        Check.openBoth(wire);
        Check.same("allowed without wishes", allowed(wire, 0) + allowed(wire, 1),
                "-1 -1 -1 -1-1 -1 -1 -1");
        Check.same("granted without wishes", granted(wire, 0) + granted(wire, 1),
                "-1 -1 -1 -1-1 -1 -1 -1");
    }

    private static void yesThatIsLostAllowsAllTheSame() {
        OptionWire wire = wireWithValues();
        Check.play(wire, "o1:2 t30 o1:2 t3");
        Check.same("waiting(0)", wire.waiting(0), 12);
        Check.play(wire, "o0:1 d1");
        Check.same("waiting(0)", wire.waiting(0), 12);
        Check.same("state", wire.state(1), OptionWire.TOLD);
        Check.same("allowed", allowed(wire, 1), "10 0 -1 -1");
    }
}
