/** Promises 10 and 11: tick and time. */
public final class TimeTest {
    public static void main(String[] args) {
        askingAndToldEndsAskAgain();
        heardEndIsAskingAgain();
        endWithoutTriesFails();
        bothEndsSendInOneTick();
        answersStartTheWaitAgain();
        yesDoesNotStartTheWaitAgain();
        requestsDoNotStartTheWaitAgain();
        lostPacketsCount();
        ticksCountOnlyTheirOwnPackets();
        Check.finish();
    }

    private static void askingAndToldEndsAskAgain() {
        int[] states = {OptionWire.ASKING, OptionWire.TOLD};
        for (int state : states) {
            for (int end = 0; end <= 1; end++) {
                OptionWire wire = States.wireWithEndIn(end, state);
                int other = 1 - end;
                while (wire.waiting(other) > 0) {
                    wire.lose(other);
                }
                if (wire.state(other) != OptionWire.CLOSED) {
                    wire.close(other);
                }
                for (int tick = 1; tick <= 27; tick++) {
                    wire.tick();
                    Check.same("tries in state " + state, wire.tries(end), 9 - tick / 3);
                    Check.same("waiting in state " + state, wire.waiting(other), tick / 3);
                    Check.same("state", wire.state(end), state);
                }
            }
        }
    }

    private static void heardEndIsAskingAgain() {
        OptionWire wire = States.wireWithEndIn(0, OptionWire.HEARD);
        Check.play(wire, "t2");
        Check.same("state before the third tick", wire.state(0), OptionWire.HEARD);
        Check.play(wire, "t1");
        Check.same("state behind the third tick", wire.state(0), OptionWire.ASKING);
        Check.same("tries", wire.tries(0), 8);
        Check.same("sent", Check.kinds(wire, 1), "[0]");
    }

    private static void endWithoutTriesFails() {
        OptionWire wire = new OptionWire();
        wire.open(1, 1);
        for (int round = 1; round <= 9; round++) {
            Check.same("sent", wire.tick(), 0);
            Check.same("sent", wire.tick(), 0);
            Check.same("sent", wire.tick(), 1);
            Check.same("tries", wire.tries(1), 9 - round);
        }
        Check.play(wire, "t2");
        Check.same("state", wire.state(1), OptionWire.ASKING);
        Check.same("tries", wire.tries(1), 0);
        Check.same("sent without tries", wire.tick(), 0);
        Check.same("state", wire.state(1), OptionWire.FAILED);
        Check.same("waiting(0)", wire.waiting(0), 10);
        heardAndToldEndsFailLikewise();
    }

    private static void heardAndToldEndsFailLikewise() {
        String lose = "l1 l1 l1 l1 l1 l1 l1 l1 l1";
        OptionWire told = new OptionWire();
        Check.play(told, "o0:1 t27 " + lose + " o1:2 d0");
        Check.same("state", told.state(0), OptionWire.TOLD);
        Check.play(told, "t3");
        Check.same("state of a TOLD end without tries", told.state(0), OptionWire.FAILED);
        OptionWire heard = new OptionWire();
        Check.play(heard, "o0:1 t27 " + lose + " o1:2 l0 d1 d0");
        Check.same("state", heard.state(0), OptionWire.HEARD);
        Check.play(heard, "t3");
        Check.same("state of a HEARD end without tries", heard.state(0), OptionWire.FAILED);
        OptionWire opened = new OptionWire();
        Check.play(opened, "o0:1 t27 " + lose + " o1:2 d0 d1 d0");
        Check.same("state", opened.state(0), OptionWire.OPENED);
        Check.same("tries", opened.tries(0), 10);
    }

    private static void bothEndsSendInOneTick() {
        OptionWire wire = new OptionWire();
        Check.play(wire, "o0:1 o1:2 t2");
        Check.same("sent", wire.tick(), 2);
        Check.same("kinds", Check.kinds(wire, 0) + Check.kinds(wire, 1), "[0 0][0 0]");
        Check.play(wire, "c0 t1");
        Check.same("BYE by the end 0", wire.tick(), 1);
        Check.same("REQUEST by the end 1", wire.tick(), 1);
        Check.play(wire, "c1 t1");
        Check.same("the third BYE of the end 0 is gone, the second one of the end 1 is due",
                wire.tick(), 1);
    }

    private static void answersStartTheWaitAgain() {
        for (int refused = 0; refused <= 1; refused++) {
            OptionWire wire = new OptionWire();
            wire.wish(0, 0, 50, 0, 100);
            wire.allow(1, 0, 0, 20);
            wire.refuse(1, 0, refused == 1);
            Check.play(wire, "o0:1 t2 o1:2 l0 d1 d0 t2");
            Check.same("tries two ticks behind the answer", wire.tries(0), 8);
            Check.play(wire, "t1");
            Check.same("tries three ticks behind the answer", wire.tries(0), 7);
        }
        OptionWire opened = new OptionWire();
        Check.openBoth(opened);
        Check.play(opened, "c0 t6 l1 l1 l1 o0:3 t1 d1 t2");
        Check.same("tries two ticks behind the request", opened.tries(1), 9);
        Check.play(opened, "t1");
        Check.same("tries three ticks behind the request", opened.tries(1), 8);
    }

    private static void yesDoesNotStartTheWaitAgain() {
        OptionWire wire = new OptionWire();
        Check.play(wire, "o0:1 t2 o1:2 l0 d1 d0");
        Check.same("state", wire.state(0), OptionWire.HEARD);
        Check.play(wire, "t1");
        Check.same("state", wire.state(0), OptionWire.ASKING);
    }

    private static void requestsDoNotStartTheWaitAgain() {
        OptionWire wire = new OptionWire();
        Check.play(wire, "o0:1 t2 o1:2 d0");
        Check.same("state", wire.state(0), OptionWire.TOLD);
        Check.play(wire, "t1");
        Check.same("tries", wire.tries(0), 8);
        OptionWire loop = new OptionWire();
        Check.play(loop, "loop o0:1 t2 d0 t1");
        Check.same("tries behind a loop", loop.tries(0), 8);
    }

    private static void lostPacketsCount() {
        OptionWire wire = new OptionWire();
        Check.play(wire, "o0:1 t30 o0:1 t3");
        Check.same("waiting(1)", wire.waiting(1), 12);
        Check.play(wire, "t2");
        Check.same("sent and lost", wire.tick(), 1);
        Check.same("waiting(1)", wire.waiting(1), 12);
    }

    private static void ticksCountOnlyTheirOwnPackets() {
        OptionWire wire = new OptionWire();
        Check.play(wire, "o0:1 o1:2 d0 d1");
        Check.same("sent", wire.tick(), 0);
        Check.same("sent", wire.tick(), 0);
        Check.same("sent", wire.tick(), 2);
        Check.same("sent", wire.tick(), 0);
    }
}
