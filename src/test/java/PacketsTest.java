/** Promises 8, 9, 17 and 18: deliver, lose, waiting, kindAt. */
public final class PacketsTest {
    public static void main(String[] args) {
        packetsComeInTheOrderInWhichTheyWereSent();
        atMostTwelveWait();
        deliveredPacketLeavesItsPlaceFirst();
        placesAreUsedAgain();
        loseChangesNothingElse();
        byeIsAnsweredInEveryState();
        byeByeClosesClosingEndsOnly();
        shutAndClosingEndsDoNothingAtOthers();
        Check.finish();
    }

    /** At the end 1 two requests and a BYE wait; the end 0 is CLOSING. */
    private static OptionWire wireWithSomePackets() {
        OptionWire wire = new OptionWire();
        wire.open(0, 1);
        Check.ticks(wire, 3);
        wire.close(0);
        return wire;
    }

    private static void packetsComeInTheOrderInWhichTheyWereSent() {
        OptionWire wire = wireWithSomePackets();
        Check.same("waiting(1)", wire.waiting(1), 3);
        Check.same("waiting(0)", wire.waiting(0), 0);
        Check.same("kinds", Check.kinds(wire, 1), "[0 0 4]");
        Check.same("deliver(1)", wire.deliver(1), OptionWire.REQUEST);
        Check.same("lose(1)", wire.lose(1), OptionWire.REQUEST);
        Check.same("kinds", Check.kinds(wire, 1), "[4]");
        Check.same("deliver(1)", wire.deliver(1), OptionWire.BYE);
        Check.same("waiting(1)", wire.waiting(1), 0);
        Check.same("kinds", Check.kinds(wire, 0), "[5]");
        Check.same("lose(0)", wire.lose(0), OptionWire.BYE_BYE);
        Check.same("waiting(0)", wire.waiting(0), 0);
    }

    private static void atMostTwelveWait() {
        OptionWire wire = new OptionWire();
        wire.open(0, 1);
        Check.ticks(wire, 27);
        Check.same("ten requests wait", wire.waiting(1), 10);
        wire.close(0);
        Check.same("waiting(1)", wire.waiting(1), 11);
        Check.ticks(wire, 1);
        Check.same("sent by a tick", wire.tick(), 1);
        Check.same("waiting(1)", wire.waiting(1), 12);
        wire.tick();
        Check.same("a lost packet is sent by a tick, too", wire.tick(), 1);
        Check.same("waiting(1)", wire.waiting(1), 12);
        Check.same("kinds", Check.kinds(wire, 1), "[0 0 0 0 0 0 0 0 0 0 4 4]");
        wire.lose(1);
        Check.same("kinds", Check.kinds(wire, 1), "[0 0 0 0 0 0 0 0 0 4 4]");
        Check.ticks(wire, 2);
        wire.open(0, 1);
        Check.same("kinds", Check.kinds(wire, 1), "[0 0 0 0 0 0 0 0 0 4 4 0]");
    }

    /** On a looped wire with 12 packets, the answer takes the place of the delivered one. */
    private static void deliveredPacketLeavesItsPlaceFirst() {
        OptionWire wire = new OptionWire();
        wire.wish(0, 0, 50, 0, 100);
        wire.allow(0, 0, 60, 70);
        wire.loop(true);
        wire.open(0, 1);
        Check.ticks(wire, 27);
        wire.close(0);
        Check.ticks(wire, 6);
        Check.same("12 wait", Check.kinds(wire, 0), "[0 0 0 0 0 0 0 0 0 0 4 4]");
        wire.open(0, 2);
        Check.same("the request is lost", wire.waiting(0), 12);
        Check.same("deliver(0)", wire.deliver(0), OptionWire.REQUEST);
        Check.same("kinds", Check.kinds(wire, 0), "[0 0 0 0 0 0 0 0 0 4 4 2]");
        Check.same("state", wire.state(0), OptionWire.ASKING);
        Check.same("asked", wire.asked(0, 0), 50);
    }

    private static void placesAreUsedAgain() {
        OptionWire wire = new OptionWire();
        for (int round = 0; round < 15; round++) {
            wire.open(1, 1);
            wire.close(1);
            Check.same("kinds in round " + round, Check.kinds(wire, 0), "[0 4]");
            Check.same("deliver(0)", wire.deliver(0), OptionWire.REQUEST);
            Check.same("deliver(0)", wire.deliver(0), OptionWire.BYE);
            Check.same("kinds in round " + round, Check.kinds(wire, 1), "[5]");
            Check.same("deliver(1)", wire.deliver(1), OptionWire.BYE_BYE);
            Check.same("state", wire.state(1), OptionWire.CLOSED);
        }
    }

    private static void loseChangesNothingElse() {
        OptionWire wire = wireWithSomePackets();
        wire.open(1, 3);
        String kinds = ", waiting [0 0 4]";
        String before = Check.standing(wire);
        Check.same("the end 1 is the last told", before.endsWith(kinds), true);
        Check.same("lose(1)", wire.lose(1), OptionWire.REQUEST);
        Check.same("standing", Check.standing(wire), before.replace(kinds, ", waiting [0 4]"));
        Check.same("lose(1)", wire.lose(1), OptionWire.REQUEST);
        Check.same("lose(1)", wire.lose(1), OptionWire.BYE);
        Check.same("standing", Check.standing(wire), before.replace(kinds, ", waiting []"));
    }

    private static void byeIsAnsweredInEveryState() {
        for (int state = OptionWire.CLOSED; state <= OptionWire.LOOPED; state++) {
            for (int end = 0; end <= 1; end++) {
                OptionWire wire = States.wireWithEndIn(end, state);
                int other = 1 - end;
                clear(wire);
                if (wire.state(other) == OptionWire.CLOSED) {
                    wire.open(other, 2);
                    wire.lose(end);
                }
                wire.close(other);
                Check.same("deliver in state " + state, wire.deliver(end), OptionWire.BYE);
                Check.same("answer in state " + state, Check.kinds(wire, other), "[5]");
                boolean isUp = state >= OptionWire.ASKING && state <= OptionWire.OPENED;
                Check.same("state behind BYE in state " + state, wire.state(end),
                        isUp ? OptionWire.CLOSED : state);
                Check.same("deliver at the other", wire.deliver(other), OptionWire.BYE_BYE);
                Check.same("state of the other", wire.state(other), OptionWire.CLOSED);
                Check.same("BYE_BYE is not answered", wire.waiting(end), 0);
            }
        }
    }

    /** The other end's BYE comes back to it on a looped wire; its BYE_BYE comes to the end. */
    private static void byeByeClosesClosingEndsOnly() {
        for (int state = OptionWire.CLOSED; state <= OptionWire.LOOPED; state++) {
            for (int end = 0; end <= 1; end++) {
                OptionWire wire = States.wireWithEndIn(end, state);
                int other = 1 - end;
                clear(wire);
                wire.loop(true);
                if (wire.state(other) == OptionWire.CLOSED) {
                    wire.open(other, 2);
                    wire.lose(other);
                }
                wire.close(other);
                wire.loop(false);
                wire.deliver(other);
                Check.same("a BYE_BYE waits", Check.kinds(wire, end), "[5]");
                String before = Check.standing(wire).replace("[5]", "[]");
                Check.same("deliver", wire.deliver(end), OptionWire.BYE_BYE);
                if (state == OptionWire.CLOSING) {
                    Check.same("state", wire.state(end), OptionWire.CLOSED);
                } else {
                    Check.same("BYE_BYE in state " + state, Check.standing(wire), before);
                }
            }
        }
    }

    private static void shutAndClosingEndsDoNothingAtOthers() {
        int[] states = {
            OptionWire.CLOSED, OptionWire.CLOSING, OptionWire.FAILED, OptionWire.LOOPED,
        };
        for (int state : states) {
            for (int end = 0; end <= 1; end++) {
                OptionWire wire = States.wireWithEndIn(end, state);
                clear(wire);
                wire.open(1 - end, 2);
                String before = Check.standing(wire);
                wire.deliver(end);
                Check.same("a request in state " + state, Check.standing(wire),
                        before.replace("[0]", "[]"));
            }
        }
        answersComeToEndsThatAreShutOrClosing();
    }

    /** A YES, a COUNTER and a REFUSAL with the number of the latest request. */
    private static void answersComeToEndsThatAreShutOrClosing() {
        for (int kind = OptionWire.YES; kind <= OptionWire.REFUSAL; kind++) {
            for (int ticks = 0; ticks <= 6; ticks += 6) {
                OptionWire wire = new OptionWire();
                wire.wish(0, 0, 50, 0, 100);
                wire.allow(1, 0, kind == OptionWire.COUNTER ? 60 : 0, 100);
                wire.refuse(1, 0, kind == OptionWire.REFUSAL);
                wire.open(1, 2);
                wire.lose(0);
                wire.open(0, 1);
                wire.deliver(1);
                wire.close(0);
                Check.ticks(wire, ticks);
                String before = Check.standing(wire);
                Check.same("kind", wire.deliver(0), kind);
                String rest = ticks == 0 ? "[]" : "[0 0]";
                String line = ticks == 0 ? "[" + kind + "]" : "[" + kind + " 0 0]";
                Check.same("the answer " + kind + " in state " + wire.state(0),
                        Check.standing(wire), before.replace(line, rest));
            }
        }
    }

    private static void clear(OptionWire wire) {
        for (int end = 0; end <= 1; end++) {
            while (wire.waiting(end) > 0) {
                wire.lose(end);
            }
        }
    }
}
