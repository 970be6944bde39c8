/** Promises 6 and 7, edge by edge; each test stands for the sentence above it. */
public final class OpenCloseEdgesTest {
    public static void main(String[] args) {
        openEnds();
        openMarks();
        openMarksAtTheirEdges();
        openOfAShutEnd();
        openOfAnEndThatIsNotShut();
        openLooksAtArgumentsFirst();
        openHasTenTries();
        openWithoutWishes();
        openWithAllWishes();
        openWithoutRoom();
        closeEnds();
        closeOfAnEndThatIsUp();
        closeOfAnEndThatIsShut();
        closeOfAClosingEnd();
        closeLooksAtArgumentsFirst();
        closeWaitsForTwoTicks();
        closeWithoutRoom();
        Check.finish();
    }

    // 6: "IllegalArgumentException if end or mark is out of range"
    private static void openEnds() {
        for (int end : Wrong.ENDS) {
            Check.illegalArgument("open(" + end + ", 1)", OptionWire::new,
                    wire -> wire.open(end, 1));
        }
    }

    private static void openMarks() {
        for (int mark : Wrong.MARKS) {
            for (int end = 0; end <= 1; end++) {
                int at = end;
                Check.illegalArgument("open(" + end + ", " + mark + ")", OptionWire::new,
                        wire -> wire.open(at, mark));
            }
        }
    }

    // 6: "mark: 1 to 999"
    private static void openMarksAtTheirEdges() {
        int[] marks = {1, 2, 998, 999};
        for (int mark : marks) {
            for (int other : marks) {
                OptionWire wire = Check.played("o0:" + mark + " o1:" + other + " d1");
                Check.same("state of an end with the mark " + other + " at a request with the mark "
                        + mark, wire.state(1),
                        mark == other ? OptionWire.ASKING : OptionWire.TOLD);
            }
        }
    }

    // 6: "IllegalStateException if the end is not shut"
    private static void openOfAShutEnd() {
        for (int state : States.SHUT) {
            for (int end = 0; end <= 1; end++) {
                OptionWire wire = States.wireWithEndIn(end, state);
                int waiting = wire.waiting(1 - end);
                wire.open(end, 7);
                Check.same("open in state " + state, wire.state(end), OptionWire.ASKING);
                Check.same("tries", wire.tries(end), 9);
                Check.same("a request is sent", wire.waiting(1 - end), waiting + 1);
            }
        }
    }

    private static void openOfAnEndThatIsNotShut() {
        for (int state : States.NOT_SHUT) {
            for (int end = 0; end <= 1; end++) {
                int at = end;
                Check.illegalState("open in state " + state,
                        () -> States.wireWithEndIn(at, state), wire -> wire.open(at, 7));
            }
        }
    }

    // "If several apply, the one that the throws clause names first is thrown."
    private static void openLooksAtArgumentsFirst() {
        for (int state : States.NOT_SHUT) {
            Check.Maker maker = () -> States.wireWithEndIn(0, state);
            Check.illegalArgument("open(0, 0) in state " + state, maker, wire -> wire.open(0, 0));
            Check.illegalArgument("open(0, 1000) in state " + state, maker,
                    wire -> wire.open(0, 1000));
            Check.illegalArgument("open(2, 1) in state " + state, maker, wire -> wire.open(2, 1));
        }
    }

    // 6: "it is ASKING, has 10 tries": one is used at once, nine are left for nine times 3 ticks
    private static void openHasTenTries() {
        OptionWire wire = Check.played("o0:1 t29");
        Check.same("requests behind 29 ticks", wire.waiting(1), 10);
        Check.same("tries behind 29 ticks", wire.tries(0), 0);
        Check.same("state behind 29 ticks", wire.state(0), OptionWire.ASKING);
        Check.play(wire, "t1");
        Check.same("requests behind 30 ticks", wire.waiting(1), 10);
        Check.same("state behind 30 ticks", wire.state(0), OptionWire.FAILED);
    }

    // 6: "asks for its wishes": none
    private static void openWithoutWishes() {
        OptionWire wire = new OptionWire();
        wire.refuse(1, 0, true);
        wire.allow(1, 1, 100, 100);
        Check.play(wire, "o1:2 o0:1 x0 d1");
        Check.same("asked", Check.asked(wire, 0), "-1 -1 -1 -1");
        Check.same("the request without values is good", Check.kinds(wire, 0), "[1]");
    }

    // 6: "asks for its wishes": all, at the edges of the values
    private static void openWithAllWishes() {
        OptionWire wire = new OptionWire();
        int[] wishes = {0, 100, 1, 99};
        for (int option = 0; option <= 3; option++) {
            wire.wish(0, option, wishes[option], wishes[option], wishes[option]);
        }
        Check.play(wire, "o1:2 o0:1 x0 d1");
        for (int option = 0; option <= 3; option++) {
            Check.same("asked", wire.asked(0, option), wishes[option]);
            Check.same("allowed", wire.allowed(1, option), wishes[option]);
        }
    }

    // "one that is sent when 12 wait there is lost": a request of open(), which has one try less
    private static void openWithoutRoom() {
        OptionWire wire = Check.played("o1:2 t27 c1 t6");
        Check.same("waiting(0)", wire.waiting(0), 12);
        Check.play(wire, "o1:3");
        Check.same("waiting(0)", Check.kinds(wire, 0), "[0 0 0 0 0 0 0 0 0 0 4 4]");
        Check.same("state", wire.state(1), OptionWire.ASKING);
        Check.same("tries", wire.tries(1), 9);
    }

    // 7: "IllegalArgumentException if end is out of range"
    private static void closeEnds() {
        for (int end : Wrong.ENDS) {
            Check.illegalArgument("close(" + end + ")", () -> Check.played("o0:1 o1:2"),
                    wire -> wire.close(end));
        }
    }

    // 7: "IllegalStateException if the end is shut or CLOSING"
    private static void closeOfAnEndThatIsUp() {
        for (int state : States.UP) {
            for (int end = 0; end <= 1; end++) {
                OptionWire wire = States.wireWithEndIn(end, state);
                Check.loseAll(wire, 1 - end);
                wire.close(end);
                Check.same("close in state " + state, wire.state(end), OptionWire.CLOSING);
                Check.same("sent", Check.kinds(wire, 1 - end), "[4]");
            }
        }
    }

    private static void closeOfAnEndThatIsShut() {
        for (int state : States.SHUT) {
            for (int end = 0; end <= 1; end++) {
                int at = end;
                Check.illegalState("close in state " + state,
                        () -> States.wireWithEndIn(at, state), wire -> wire.close(at));
            }
        }
    }

    private static void closeOfAClosingEnd() {
        for (int ticks = 0; ticks <= 5; ticks++) {
            String moves = "o0:1 c0 t" + ticks;
            Check.illegalState("close behind " + moves, () -> Check.played(moves),
                    wire -> wire.close(0));
        }
    }

    private static void closeLooksAtArgumentsFirst() {
        for (int end : Wrong.ENDS) {
            Check.illegalArgument("close(" + end + ") of a new object", OptionWire::new,
                    wire -> wire.close(end));
        }
    }

    // 7: "waits for 2 ticks"
    private static void closeWaitsForTwoTicks() {
        for (int ticks = 0; ticks <= 2; ticks++) {
            OptionWire wire = Check.played("o0:1 x1 t" + ticks + " c0");
            Check.same("sent by the first tick", wire.tick(), 0);
            Check.same("sent by the second tick", wire.tick(), 1);
        }
    }

    // "one that is sent when 12 wait there is lost": a BYE of close(), which is one of three
    private static void closeWithoutRoom() {
        OptionWire wire = Check.played("o1:2 t27 c1 t6 o1:3 c1");
        Check.same("waiting(0)", Check.kinds(wire, 0), "[0 0 0 0 0 0 0 0 0 0 4 4]");
        Check.same("state", wire.state(1), OptionWire.CLOSING);
        Check.play(wire, "x0");
        Check.same("sent by two ticks", wire.tick() + wire.tick(), 1);
        Check.same("sent by two ticks more", wire.tick() + wire.tick(), 1);
        Check.same("state", wire.state(1), OptionWire.CLOSING);
        Check.same("sent by the last two ticks", wire.tick() + wire.tick(), 0);
        Check.same("state", wire.state(1), OptionWire.CLOSED);
        Check.same("waiting(0)", Check.kinds(wire, 0), "[4 4]");
    }
}
