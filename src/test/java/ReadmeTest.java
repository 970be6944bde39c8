/** The examples of README.md, call by call, with what their comments tell of answers and states. */
public final class ReadmeTest {
    public static void main(String[] args) {
        twoEndsOpen();
        timeAndAGoodBye();
        aLoopedWire();
        Check.finish();
    }

    private static void twoEndsOpen() {
        OptionWire wire = new OptionWire();
        wire.wish(0, 0, 50, 10, 60);
        wire.allow(1, 0, 0, 20);
        wire.open(0, 11);
        wire.open(1, 22);
        checkDeliver(wire, 1, OptionWire.REQUEST);
        Check.same("the answer of the end 1", wire.kindAt(0, 1), OptionWire.COUNTER);
        checkDeliver(wire, 0, OptionWire.REQUEST);
        Check.same("the answer of the end 0", wire.kindAt(1, 0), OptionWire.YES);
        checkDeliver(wire, 0, OptionWire.COUNTER);
        Check.same("asked(0, 0)", wire.asked(0, 0), 20);
        checkDeliver(wire, 1, OptionWire.YES);
        Check.same("state(1)", wire.state(1), OptionWire.HEARD);
        checkDeliver(wire, 1, OptionWire.REQUEST);
        Check.same("state(1)", wire.state(1), OptionWire.OPENED);
        checkDeliver(wire, 0, OptionWire.YES);
        Check.same("state(0)", wire.state(0), OptionWire.OPENED);
        Check.same("granted(0, 0)", wire.granted(0, 0), 20);
        Check.same("allowed(1, 0)", wire.allowed(1, 0), 20);
        Check.same("lineLength(0)", wire.lineLength(0), 10);
        Check.same("line of the end 0", Check.line(wire, 0), "opened a20");
        Check.same("lineChar(0, 7)", wire.lineChar(0, 7), 'a');
    }

    private static void timeAndAGoodBye() {
        OptionWire wire = new OptionWire();
        wire.open(0, 11);
        Check.same("lose(1)", wire.lose(1), OptionWire.REQUEST);
        Check.same("the first tick", wire.tick(), 0);
        Check.same("the second tick", wire.tick(), 0);
        Check.same("the third tick", wire.tick(), 1);
        Check.same("tries(0)", wire.tries(0), 8);
        wire.close(0);
        Check.same("state(0)", wire.state(0), OptionWire.CLOSING);
        checkDeliver(wire, 1, OptionWire.REQUEST);
        Check.same("what the end 1 has sent", Check.kinds(wire, 0), "[]");
        checkDeliver(wire, 1, OptionWire.BYE);
        checkDeliver(wire, 0, OptionWire.BYE_BYE);
        Check.same("state(0)", wire.state(0), OptionWire.CLOSED);
    }

    private static void aLoopedWire() {
        OptionWire wire = new OptionWire();
        wire.loop(true);
        wire.open(0, 11);
        Check.ticks(wire, 6);
        Check.same("requests that came back", Check.kinds(wire, 0), "[0 0 0]");
        for (int loop = 1; loop <= 3; loop++) {
            checkDeliver(wire, 0, OptionWire.REQUEST);
        }
        Check.same("state(0)", wire.state(0), OptionWire.LOOPED);
    }

    private static void checkDeliver(OptionWire wire, int end, int due) {
        Check.same("deliver(" + end + ")", wire.deliver(end), due);
    }
}
