/** Promises 10 and 11 and "A tick", edge by edge; each test stands for the sentence above it. */
public final class TimeEdgesTest {
    public static void main(String[] args) {
        timeStartsAtZero();
        timeOfTheLongestRun();
        timeIsThatOfTicksAlone();
        tickThatSendsNothing();
        tickThatSendsOne();
        tickThatSendsTwo();
        tickThatSendsWhatIsLost();
        tickCountsNoOtherPackets();
        tickOfEndsThatDoNotWait();
        thirdTickAsksAgain();
        tickWithTheLastTry();
        tickWithoutTries();
        tickOfAHeardEnd();
        tickOfAHeardEndWithoutTries();
        tickOfAToldEndWithoutTries();
        tickOfBothEndsWithoutTries();
        tickOfAClosingEnd();
        tickOfAClosingEndAfterByesBefore();
        tickOfAnEndThatBecameOpened();
        tickAfterARequestInOpened();
        tickDoesNotDeliver();
        Check.finish();
    }

    // 11: "Returns the time.", 1: "the time 0"
    private static void timeStartsAtZero() {
        OptionWire wire = new OptionWire();
        Check.same("time", wire.time(), 0);
        wire.tick();
        Check.same("time behind a tick", wire.time(), 1);
    }

    // "An object is used for at most 512 calls": 511 ticks, and the question for the time
    private static void timeOfTheLongestRun() {
        OptionWire wire = new OptionWire();
        Check.ticks(wire, 511);
        Check.same("time behind 511 ticks", wire.time(), 511);
    }

    private static void timeIsThatOfTicksAlone() {
        Check.same("time", Check.played("o0:1 o1:2 d1 d0 d0 d1 c0 l1 loop").time(), 0);
    }

    // 10: "Returns how many packets are sent by it, lost ones included."
    private static void tickThatSendsNothing() {
        Check.same("sent on a new object", new OptionWire().tick(), 0);
        Check.same("sent by the first tick", Check.played("o0:1 o1:2").tick(), 0);
        Check.same("sent by the second tick", Check.played("o0:1 o1:2 t1").tick(), 0);
        Check.same("sent by the fourth tick", Check.played("o0:1 o1:2 t3").tick(), 0);
    }

    private static void tickThatSendsOne() {
        Check.same("sent by the end 0", Check.played("o0:1 t1 o1:2 t1").tick(), 1);
        Check.same("sent by the end 1", Check.played("o1:1 t1 o0:2 t1").tick(), 1);
        Check.same("a BYE", Check.played("o1:1 c1 t1").tick(), 1);
        Check.same("to the end itself", Check.played("loop o1:1 t2").tick(), 1);
    }

    private static void tickThatSendsTwo() {
        OptionWire wire = Check.played("o0:1 o1:2 t2");
        Check.same("two requests", wire.tick(), 2);
        Check.same("kinds", Check.kinds(wire, 0) + Check.kinds(wire, 1), "[0 0][0 0]");
        OptionWire byes = Check.played("o0:1 o1:2 t1 c0 c1 t1");
        Check.same("two BYEs", byes.tick(), 2);
        OptionWire mixed = Check.played("o0:1 o1:2 t1 c0 t1");
        Check.same("a BYE and a REQUEST", mixed.tick(), 2);
        Check.same("kinds", Check.kinds(mixed, 0) + Check.kinds(mixed, 1), "[0 0][0 4 4]");
    }

    private static void tickThatSendsWhatIsLost() {
        OptionWire request = Check.played("o1:2 t27 c1 t6 o1:2 t2");
        Check.same("a lost REQUEST", request.tick(), 1);
        Check.same("waiting(0)", request.waiting(0), 12);
        OptionWire bye = Check.played("o1:2 t27 c1 t3");
        Check.same("a lost BYE", bye.tick(), 1);
        Check.same("waiting(0)", bye.waiting(0), 12);
        OptionWire both = Check.played("o0:1 o1:2 t27 c0 c1 t3");
        Check.same("two lost BYEs", both.tick(), 2);
        Check.same("waiting", both.waiting(0) + both.waiting(1), 24);
    }

    private static void tickCountsNoOtherPackets() {
        OptionWire wire = Check.played("o0:1 o1:2 d0 d1 d0 c0 d1");
        Check.same("sent by a tick behind other calls", wire.tick(), 0);
    }

    // "if it is ASKING, HEARD, TOLD or CLOSING, it waits for one tick less"
    private static void tickOfEndsThatDoNotWait() {
        int[] states = {
            OptionWire.CLOSED, OptionWire.OPENED, OptionWire.FAILED, OptionWire.LOOPED,
        };
        for (int state : states) {
            for (int end = 0; end <= 1; end++) {
                OptionWire wire = States.wireWithEndIn(end, state);
                int time = wire.time();
                String before = Check.standing(wire);
                for (int tick = 1; tick <= 12; tick++) {
                    Check.same("sent in state " + state, wire.tick(), 0);
                }
                Check.same("standing in state " + state, Check.standing(wire),
                        before.replace("time " + time, "time " + (time + 12)));
            }
        }
    }

    // "it will wait for 3 ticks", "then ASKING and TOLD ones send a request"
    private static void thirdTickAsksAgain() {
        int[] states = {OptionWire.ASKING, OptionWire.TOLD};
        for (int state : states) {
            for (int end = 0; end <= 1; end++) {
                OptionWire wire = States.wireWithEndIn(end, state);
                Check.loseAll(wire, 1 - end);
                Check.ticks(wire, 2);
                Check.same("tries behind two ticks", wire.tries(end), 9);
                wire.tick();
                Check.same("tries behind three ticks", wire.tries(end), 8);
                Check.same("state", wire.state(end), state);
                Check.same("kind", wire.kindAt(1 - end, 0), OptionWire.REQUEST);
            }
        }
    }

    // "an end that has no tries left is FAILED instead": one that has one left is not
    private static void tickWithTheLastTry() {
        OptionWire wire = Check.played("o0:1 t26");
        Check.same("tries", wire.tries(0), 1);
        Check.same("sent", wire.tick(), 1);
        Check.same("tries", wire.tries(0), 0);
        Check.same("state", wire.state(0), OptionWire.ASKING);
    }

    private static void tickWithoutTries() {
        for (int end = 0; end <= 1; end++) {
            OptionWire wire = Check.played("o" + end + ":1 t29");
            Check.same("tries", wire.tries(end), 0);
            Check.same("state", wire.state(end), OptionWire.ASKING);
            Check.same("sent", wire.tick(), 0);
            Check.same("tries", wire.tries(end), 0);
            Check.same("state", wire.state(end), OptionWire.FAILED);
            Check.same("waiting", wire.waiting(1 - end), 10);
        }
    }

    // "one that is HEARD is ASKING"
    private static void tickOfAHeardEnd() {
        for (int end = 0; end <= 1; end++) {
            OptionWire wire = States.wireWithEndIn(end, OptionWire.HEARD);
            Check.loseAll(wire, 1 - end);
            Check.ticks(wire, 2);
            Check.same("state behind two ticks", wire.state(end), OptionWire.HEARD);
            wire.tick();
            Check.same("state behind three ticks", wire.state(end), OptionWire.ASKING);
            Check.same("tries", wire.tries(end), 8);
            Check.same("kind", wire.kindAt(1 - end, 0), OptionWire.REQUEST);
        }
    }

    private static void tickOfAHeardEndWithoutTries() {
        OptionWire wire = Check.played("o0:1 t27 l1 l1 l1 l1 l1 l1 l1 l1 l1 o1:2 l0 d1 d0");
        Check.same("state", wire.state(0), OptionWire.HEARD);
        Check.same("tries", wire.tries(0), 0);
        Check.play(wire, "t2");
        Check.same("state behind two ticks", wire.state(0), OptionWire.HEARD);
        Check.play(wire, "t1");
        Check.same("state behind three ticks", wire.state(0), OptionWire.FAILED);
    }

    private static void tickOfAToldEndWithoutTries() {
        OptionWire wire = Check.played("o0:1 t27 o1:2 d0");
        Check.same("state", wire.state(0), OptionWire.TOLD);
        Check.same("tries", wire.tries(0), 0);
        Check.play(wire, "t2");
        Check.same("state behind two ticks", wire.state(0), OptionWire.TOLD);
        Check.play(wire, "t1");
        Check.same("state behind three ticks", wire.state(0), OptionWire.FAILED);
    }

    private static void tickOfBothEndsWithoutTries() {
        OptionWire wire = Check.played("o0:1 o1:2 t29");
        Check.same("sent", wire.tick(), 0);
        Check.same("state(0)", wire.state(0), OptionWire.FAILED);
        Check.same("state(1)", wire.state(1), OptionWire.FAILED);
    }

    // "sends BYE again and waits for 2 ticks, if it has sent fewer than 3 since close() was called,
    // and is CLOSED otherwise"
    private static void tickOfAClosingEnd() {
        for (int end = 0; end <= 1; end++) {
            OptionWire wire = Check.played("o" + end + ":1 x" + (1 - end) + " c" + end);
            int[] sent = {0, 1, 0, 1, 0, 0, 0, 0};
            for (int tick = 0; tick < sent.length; tick++) {
                Check.same("sent by tick " + tick, wire.tick(), sent[tick]);
                Check.same("state behind tick " + tick, wire.state(end),
                        tick < 5 ? OptionWire.CLOSING : OptionWire.CLOSED);
            }
            Check.same("kinds", Check.kinds(wire, 1 - end), "[4 4 4]");
        }
    }

    private static void tickOfAClosingEndAfterByesBefore() {
        OptionWire wire = Check.played("o0:1 c0 t6 x1 o0:1 x1 c0 t4");
        Check.same("the BYEs since the second close()", Check.kinds(wire, 1), "[4 4 4]");
        OptionWire early = Check.played("o0:1 c0 t1 d1 d1 d0");
        Check.same("CLOSED by BYE_BYE", early.state(0), OptionWire.CLOSED);
        Check.play(early, "o0:1 x1 c0 t5");
        Check.same("the BYEs since the second close()", Check.kinds(early, 1), "[4 4 4]");
        Check.same("state", early.state(0), OptionWire.CLOSING);
        Check.play(early, "t1");
        Check.same("state", early.state(0), OptionWire.CLOSED);
    }

    // "Whenever an end becomes OPENED, it has 10 tries.", and waits for nothing
    private static void tickOfAnEndThatBecameOpened() {
        for (int end = 0; end <= 1; end++) {
            OptionWire wire = Check.played("o0:1 o1:2 t2 d0 d1 d0 d1");
            Check.same("state", wire.state(end), OptionWire.OPENED);
            Check.same("sent", wire.tick() + wire.tick() + wire.tick(), 0);
            Check.same("tries", wire.tries(end), 10);
        }
    }

    // "If the end is OPENED, it is ASKING and has 10 tries from here on, and sends a request."
    private static void tickAfterARequestInOpened() {
        OptionWire wire = Check.played("o0:1 o1:2 t2 d0 d1 d0 d1 c0 t6 x1 o0:3 d1");
        Check.same("tries", wire.tries(1), 9);
        Check.play(wire, "t2");
        Check.same("tries behind two ticks", wire.tries(1), 9);
        Check.play(wire, "t1");
        Check.same("tries behind three ticks", wire.tries(1), 8);
        Check.play(wire, "t24");
        Check.same("tries behind 27 ticks", wire.tries(1), 0);
        Check.play(wire, "t2");
        Check.same("state behind 29 ticks", wire.state(1), OptionWire.TOLD);
        Check.play(wire, "t1");
        Check.same("state behind 30 ticks", wire.state(1), OptionWire.FAILED);
    }

    private static void tickDoesNotDeliver() {
        OptionWire wire = Check.played("o0:1 o1:2 t6");
        Check.same("waiting", wire.waiting(0) + wire.waiting(1), 6);
        Check.same("state(0)", wire.state(0), OptionWire.ASKING);
        Check.same("state(1)", wire.state(1), OptionWire.ASKING);
    }
}
