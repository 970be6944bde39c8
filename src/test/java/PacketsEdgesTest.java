/** Promises 8, 9, 17 and 18 and the queue, edge by edge; each stands for the sentence above it. */
public final class PacketsEdgesTest {
    private static final String TWELVE = "[0 0 0 0 0 0 0 0 0 0 4 4]";
    /** Twelve packets wait at the end 0, and the end 1 is CLOSED. */
    private static final String FILL = "o1:2 t27 c1 t6";

    public static void main(String[] args) {
        deliverEnds();
        deliverWhereNoneWaits();
        deliverTheLastOne();
        loseEnds();
        loseWhereNoneWaits();
        loseTheLastOne();
        waitingEnds();
        waitingIsZeroToTwelve();
        kindAtEnds();
        kindAtPlaceBelowZero();
        kindAtPlaceBehindTheLast();
        kindAtTheLastOfTwelve();
        argumentsAreLookedAtFirst();
        loseDoesNothingElse();
        orderOfTwelveAtEveryTurn();
        twelfthPacketHasRoom();
        thirteenthRequestIsLost();
        thirteenthYesIsLost();
        thirteenthCounterIsLost();
        thirteenthRefusalIsLost();
        thirteenthByeIsLost();
        thirteenthByeByeIsLost();
        lostPacketsDoNotComeLater();
        deliveredPacketMakesRoomForItsAnswer();
        loopedEndIsItsOwnOtherEnd();
        waitingPacketsStayWhenLooped();
        Check.finish();
    }

    private static OptionWire somePackets() {
        return Check.played("o0:1 t3 c0");
    }

    // 8: "IllegalArgumentException if end is out of range"
    private static void deliverEnds() {
        for (int end : Wrong.ENDS) {
            Check.illegalArgument("deliver(" + end + ")", PacketsEdgesTest::somePackets,
                    wire -> wire.deliver(end));
        }
    }

    // 8: "NoSuchElementException if none waits"
    private static void deliverWhereNoneWaits() {
        for (int end = 0; end <= 1; end++) {
            int at = end;
            Check.noSuchElement("deliver on a new object", OptionWire::new,
                    wire -> wire.deliver(at));
        }
        Check.noSuchElement("deliver at the sender", PacketsEdgesTest::somePackets,
                wire -> wire.deliver(0));
        Check.noSuchElement("deliver behind the last one", () -> Check.played("o0:1 l1"),
                wire -> wire.deliver(1));
        Check.noSuchElement("deliver behind twelve", () -> Check.played(FILL + " x0"),
                wire -> wire.deliver(0));
    }

    private static void deliverTheLastOne() {
        OptionWire wire = somePackets();
        Check.same("first", wire.deliver(1), OptionWire.REQUEST);
        Check.same("second", wire.deliver(1), OptionWire.REQUEST);
        Check.same("last", wire.deliver(1), OptionWire.BYE);
        Check.same("waiting(1)", wire.waiting(1), 0);
    }

    // 9: "IllegalArgumentException if end is out of range"
    private static void loseEnds() {
        for (int end : Wrong.ENDS) {
            Check.illegalArgument("lose(" + end + ")", PacketsEdgesTest::somePackets,
                    wire -> wire.lose(end));
        }
    }

    // 9: "NoSuchElementException if none waits"
    private static void loseWhereNoneWaits() {
        for (int end = 0; end <= 1; end++) {
            int at = end;
            Check.noSuchElement("lose on a new object", OptionWire::new, wire -> wire.lose(at));
        }
        Check.noSuchElement("lose at the sender", PacketsEdgesTest::somePackets,
                wire -> wire.lose(0));
        Check.noSuchElement("lose behind the last one", () -> Check.played("o0:1 d1"),
                wire -> wire.lose(1));
        Check.noSuchElement("lose behind twelve", () -> Check.played(FILL + " x0"),
                wire -> wire.lose(0));
    }

    private static void loseTheLastOne() {
        OptionWire wire = somePackets();
        Check.same("first", wire.lose(1), OptionWire.REQUEST);
        Check.same("second", wire.lose(1), OptionWire.REQUEST);
        Check.same("last", wire.lose(1), OptionWire.BYE);
        Check.same("waiting(1)", wire.waiting(1), 0);
    }

    // 17: "IllegalArgumentException if end is out of range"
    private static void waitingEnds() {
        for (int end : Wrong.ENDS) {
            Check.illegalArgument("waiting(" + end + ")", PacketsEdgesTest::somePackets,
                    wire -> wire.waiting(end));
        }
    }

    // 17: "Returns 0 to 12."
    private static void waitingIsZeroToTwelve() {
        for (int end = 0; end <= 1; end++) {
            int other = 1 - end;
            OptionWire wire = new OptionWire();
            Check.same("waiting on a new object", wire.waiting(end), 0);
            wire.open(other, 1);
            for (int sent = 1; sent <= 9; sent++) {
                Check.same("waiting, " + sent + " sent", wire.waiting(end), sent);
                Check.ticks(wire, 3);
            }
            Check.same("waiting, 10 sent", wire.waiting(end), 10);
            wire.close(other);
            Check.same("waiting, 11 sent", wire.waiting(end), 11);
            Check.ticks(wire, 2);
            Check.same("waiting, 12 sent", wire.waiting(end), 12);
            Check.ticks(wire, 2);
            Check.same("waiting, 13 sent", wire.waiting(end), 12);
            Check.same("waiting at the other end", wire.waiting(other), 0);
        }
    }

    // 18: "IllegalArgumentException if end is out of range"
    private static void kindAtEnds() {
        for (int end : Wrong.ENDS) {
            Check.illegalArgument("kindAt(" + end + ", 0)", PacketsEdgesTest::somePackets,
                    wire -> wire.kindAt(end, 0));
        }
    }

    // 18: "NoSuchElementException if place is below 0"
    private static void kindAtPlaceBelowZero() {
        for (int place : new int[] {-1, -12, Integer.MIN_VALUE}) {
            Check.noSuchElement("kindAt(1, " + place + ")", PacketsEdgesTest::somePackets,
                    wire -> wire.kindAt(1, place));
            Check.noSuchElement("kindAt(0, " + place + ")", PacketsEdgesTest::somePackets,
                    wire -> wire.kindAt(0, place));
            Check.noSuchElement("kindAt(0, " + place + ") of twelve", () -> Check.played(FILL),
                    wire -> wire.kindAt(0, place));
        }
    }

    // 18: "or not so many wait"
    private static void kindAtPlaceBehindTheLast() {
        Check.same("kindAt(1, 0)", somePackets().kindAt(1, 0), OptionWire.REQUEST);
        Check.same("kindAt(1, 2)", somePackets().kindAt(1, 2), OptionWire.BYE);
        for (int place : new int[] {3, 4, 11, 12, 13, Integer.MAX_VALUE}) {
            Check.noSuchElement("kindAt(1, " + place + ")", PacketsEdgesTest::somePackets,
                    wire -> wire.kindAt(1, place));
        }
        for (int place : new int[] {0, 1, 11, 12, Integer.MAX_VALUE}) {
            Check.noSuchElement("kindAt(0, " + place + "), none wait",
                    PacketsEdgesTest::somePackets, wire -> wire.kindAt(0, place));
        }
        Check.noSuchElement("kindAt(1, 2), one is lost", () -> Check.played("o0:1 t3 c0 l1"),
                wire -> wire.kindAt(1, 2));
    }

    private static void kindAtTheLastOfTwelve() {
        Check.same("kindAt(0, 0)", Check.played(FILL).kindAt(0, 0), OptionWire.REQUEST);
        Check.same("kindAt(0, 11)", Check.played(FILL).kindAt(0, 11), OptionWire.BYE);
        for (int place : new int[] {12, 13, 24, Integer.MAX_VALUE}) {
            Check.noSuchElement("kindAt(0, " + place + ") of twelve", () -> Check.played(FILL),
                    wire -> wire.kindAt(0, place));
        }
    }

    // "If several apply, the one that the throws clause names first is thrown."
    private static void argumentsAreLookedAtFirst() {
        for (int end : Wrong.ENDS) {
            Check.illegalArgument("deliver(" + end + "), none wait", OptionWire::new,
                    wire -> wire.deliver(end));
            Check.illegalArgument("lose(" + end + "), none wait", OptionWire::new,
                    wire -> wire.lose(end));
            for (int place : new int[] {-1, 0, 12, Integer.MAX_VALUE}) {
                Check.illegalArgument("kindAt(" + end + ", " + place + "), none wait",
                        OptionWire::new, wire -> wire.kindAt(end, place));
            }
        }
    }

    // 9: "Loses the first packet": no end hears of it
    private static void loseDoesNothingElse() {
        for (int state : States.ALL) {
            OptionWire wire = States.wireWithEndIn(1, state);
            Check.play(wire, "x0 x1");
            Check.play(wire, wire.state(0) == OptionWire.CLOSED ? "o0:3" : "c0");
            int kind = wire.kindAt(1, 0);
            String before = Check.standing(wire);
            Check.same("lose in state " + state, wire.lose(1), kind);
            Check.same("standing behind lose in state " + state, Check.standing(wire),
                    before.replace("waiting [" + kind + "]", "waiting []"));
        }
    }

    // "Packets to one end wait in the order in which they were sent": wherever the first one stands
    private static void orderOfTwelveAtEveryTurn() {
        int[] due = {0, 0, 4, 5, 4, 4, 0, 0, 0, 0, 4, 4};
        for (int turns = 0; turns <= 13; turns++) {
            OptionWire wire = new OptionWire();
            for (int turn = 0; turn < turns; turn++) {
                Check.play(wire, "o1:2 l0 q1");
            }
            Check.play(wire, "o1:2 t3 c1 o0:3 l1 c0 d1 t6 x1 o1:2 t9 c1 t4");
            for (int place = 0; place < 12; place++) {
                Check.same("kind at " + place + " behind " + turns + " turns",
                        wire.kindAt(0, place), due[place]);
            }
            for (int place = 0; place < 12; place++) {
                Check.same("packet " + place + " behind " + turns + " turns",
                        place % 2 == 0 ? wire.deliver(0) : wire.lose(0), due[place]);
            }
            Check.same("waiting behind " + turns + " turns", wire.waiting(0), 0);
        }
    }

    // "one that is sent when 12 wait there is lost": one that is sent when 11 wait is not
    private static void twelfthPacketHasRoom() {
        OptionWire wire = Check.played("o1:2 t27 c1");
        Check.same("waiting(0)", wire.waiting(0), 11);
        Check.play(wire, "t2");
        Check.same("kinds", Check.kinds(wire, 0), TWELVE);
        Check.play(wire, "t4 l0 o1:2");
        Check.same("kinds behind lose and open", Check.kinds(wire, 0),
                "[0 0 0 0 0 0 0 0 0 4 4 0]");
    }

    private static void thirteenthRequestIsLost() {
        OptionWire wire = Check.played(FILL + " o1:3");
        Check.same("kinds", Check.kinds(wire, 0), TWELVE);
        Check.play(wire, "t2");
        Check.same("sent by the third tick", wire.tick(), 1);
        Check.same("kinds", Check.kinds(wire, 0), TWELVE);
        Check.same("tries", wire.tries(1), 8);
    }

    private static void thirteenthYesIsLost() {
        OptionWire wire = Check.played(FILL + " o1:3 o0:1 d1");
        Check.same("kinds", Check.kinds(wire, 0), TWELVE);
        Check.same("state of the end that said yes", wire.state(1), OptionWire.TOLD);
    }

    private static void thirteenthCounterIsLost() {
        OptionWire wire = new OptionWire();
        wire.wish(0, 0, 50, 0, 100);
        wire.allow(1, 0, 60, 70);
        Check.play(wire, FILL + " o1:3 o0:1 d1");
        Check.same("kinds", Check.kinds(wire, 0), TWELVE);
        Check.same("state of the end that countered", wire.state(1), OptionWire.ASKING);
        Check.same("asked", wire.asked(0, 0), 50);
    }

    private static void thirteenthRefusalIsLost() {
        OptionWire wire = new OptionWire();
        wire.wish(0, 0, 50, 0, 100);
        wire.refuse(1, 0, true);
        Check.play(wire, FILL + " o1:3 o0:1 d1");
        Check.same("kinds", Check.kinds(wire, 0), TWELVE);
        Check.same("state of the end that refused", wire.state(1), OptionWire.ASKING);
        Check.same("asked", wire.asked(0, 0), 50);
    }

    private static void thirteenthByeIsLost() {
        OptionWire wire = Check.played(FILL + " o1:3 c1");
        Check.same("kinds", Check.kinds(wire, 0), TWELVE);
        Check.same("state", wire.state(1), OptionWire.CLOSING);
    }

    private static void thirteenthByeByeIsLost() {
        OptionWire wire = Check.played(FILL + " o1:3 o0:1 c0 l1");
        Check.same("deliver(1)", wire.deliver(1), OptionWire.BYE);
        Check.same("kinds", Check.kinds(wire, 0), TWELVE);
        Check.same("state of the end that heard BYE", wire.state(1), OptionWire.CLOSED);
        Check.same("state of the end that said it", wire.state(0), OptionWire.CLOSING);
    }

    private static void lostPacketsDoNotComeLater() {
        OptionWire wire = Check.played(FILL + " o1:3");
        for (int left = 11; left >= 0; left--) {
            wire.lose(0);
            Check.same("waiting(0)", wire.waiting(0), left);
        }
        Check.play(wire, "t3");
        Check.same("kinds", Check.kinds(wire, 0), "[0]");
    }

    // "A packet that is delivered to an end is gone from those that wait, and then"
    private static void deliveredPacketMakesRoomForItsAnswer() {
        OptionWire wire = Check.played("loop o0:1 t27 c0 t6 o0:2");
        Check.same("kinds", Check.kinds(wire, 0), TWELVE);
        Check.same("deliver(0)", wire.deliver(0), OptionWire.REQUEST);
        Check.same("the YES has the place", Check.kinds(wire, 0), "[0 0 0 0 0 0 0 0 0 4 4 1]");
        Check.same("state", wire.state(0), OptionWire.TOLD);
        OptionWire bye = Check.played("loop o0:1 c0 t6 o0:1 t27");
        Check.same("kinds", Check.kinds(bye, 0), "[0 4 4 4 0 0 0 0 0 0 0 0]");
        Check.play(bye, "l0 c0 d0");
        Check.same("the BYE_BYE has the place", Check.kinds(bye, 0),
                "[4 4 0 0 0 0 0 0 0 0 4 5]");
    }

    // "if the wire is looped when it is sent, to the end itself"
    private static void loopedEndIsItsOwnOtherEnd() {
        for (int end = 0; end <= 1; end++) {
            OptionWire wire = Check.played("loop o" + end + ":1 t3 c" + end + " t2");
            Check.same("waiting at the end itself", Check.kinds(wire, end), "[0 0 4 4]");
            Check.same("waiting at the other end", Check.kinds(wire, 1 - end), "[]");
            Check.play(wire, "l" + end + " l" + end + " d" + end);
            Check.same("the BYE is answered to itself", Check.kinds(wire, end), "[4 5]");
            Check.same("state", wire.state(end), OptionWire.CLOSING);
            Check.play(wire, "d" + end + " d" + end);
            Check.same("the BYE_BYE is heard", wire.state(end), OptionWire.CLOSED);
            Check.same("waiting at the end itself", Check.kinds(wire, end), "[5]");
        }
    }

    private static void waitingPacketsStayWhenLooped() {
        OptionWire wire = Check.played("o0:1 loop t3 unloop t3");
        Check.same("kinds at the other end", Check.kinds(wire, 1), "[0 0]");
        Check.same("kinds at the end itself", Check.kinds(wire, 0), "[0]");
    }
}
