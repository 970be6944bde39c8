/** Promises 6 and 7: open and close. */
public final class OpenCloseTest {
    public static void main(String[] args) {
        openAsksForTheWishes();
        openTakesItsEdges();
        openGivesTenTriesAgain();
        openDoesNotStartTheNumbersAgain();
        openStartsTheLoopsAgain();
        closeSendsBye();
        closeStartsTheByesAgain();
        closeKeepsTriesAndAskedValues();
        Check.finish();
    }

    private static void openAsksForTheWishes() {
        OptionWire wire = new OptionWire();
        wire.wish(1, 2, 33, 30, 40);
        wire.open(1, 5);
        Check.same("standing behind open(1, 5)", Check.standing(wire),
                "time 0; end 0: closed, state 0, tries 0, asked/granted/allowed"
                + " -1/-1/-1 -1/-1/-1 -1/-1/-1 -1/-1/-1, waiting [0]"
                + "; end 1: asking c33, state 1, tries 9, asked/granted/allowed"
                + " -1/-1/-1 -1/-1/-1 33/-1/-1 -1/-1/-1, waiting []");
    }

    private static void openTakesItsEdges() {
        OptionWire wire = new OptionWire();
        wire.open(0, 1);
        wire.open(1, 999);
        Check.same("state(0)", wire.state(0), OptionWire.ASKING);
        Check.same("state(1)", wire.state(1), OptionWire.ASKING);
        wire.deliver(0);
        Check.same("the mark 999 is not the mark 1", wire.state(0), OptionWire.TOLD);
    }

    private static void openGivesTenTriesAgain() {
        OptionWire wire = States.wireWithEndIn(0, OptionWire.FAILED);
        Check.same("tries of a FAILED end", wire.tries(0), 0);
        wire.open(0, 1);
        Check.same("tries", wire.tries(0), 9);
        Check.ticks(wire, 30);
        Check.same("state behind 29 ticks and one", wire.state(0), OptionWire.FAILED);
    }

    private static void openDoesNotStartTheNumbersAgain() {
        OptionWire wire = new OptionWire();
        wire.open(1, 2);
        wire.lose(0);
        wire.open(0, 1);
        wire.deliver(1);
        Check.same("a YES with the number 1", Check.kinds(wire, 0), "[1]");
        wire.close(0);
        Check.ticks(wire, 6);
        Check.same("shut", wire.state(0), OptionWire.CLOSED);
        wire.open(0, 1);
        wire.deliver(0);
        Check.same("the YES is not for the latest request", wire.state(0), OptionWire.ASKING);
    }

    private static void openStartsTheLoopsAgain() {
        OptionWire wire = new OptionWire();
        wire.loop(true);
        wire.open(0, 4);
        Check.ticks(wire, 3);
        wire.deliver(0);
        wire.deliver(0);
        Check.same("two loops", wire.state(0), OptionWire.ASKING);
        wire.close(0);
        Check.ticks(wire, 6);
        for (int i = wire.waiting(0); i > 0; i--) {
            wire.lose(0);
        }
        wire.open(0, 4);
        Check.ticks(wire, 6);
        wire.deliver(0);
        wire.deliver(0);
        Check.same("two loops since open()", wire.state(0), OptionWire.ASKING);
        wire.deliver(0);
        Check.same("three loops since open()", wire.state(0), OptionWire.LOOPED);
    }

    private static void closeSendsBye() {
        OptionWire wire = new OptionWire();
        wire.open(1, 5);
        wire.lose(0);
        wire.close(1);
        Check.same("state", wire.state(1), OptionWire.CLOSING);
        Check.same("sent", Check.kinds(wire, 0), "[4]");
        Check.same("not sent", Check.kinds(wire, 1), "[]");
        Check.same("the other end", wire.state(0), OptionWire.CLOSED);
    }

    private static void closeStartsTheByesAgain() {
        OptionWire wire = new OptionWire();
        for (int round = 0; round < 3; round++) {
            wire.open(0, 1);
            wire.lose(1);
            wire.close(0);
            Check.ticks(wire, 5);
            Check.same("sent in round " + round, Check.kinds(wire, 1), "[4 4 4]");
            Check.same("state in round " + round, wire.state(0), OptionWire.CLOSING);
            wire.tick();
            Check.same("state behind round " + round, wire.state(0), OptionWire.CLOSED);
            Check.deliverAll(wire, 1);
            Check.deliverAll(wire, 0);
        }
    }

    private static void closeKeepsTriesAndAskedValues() {
        OptionWire wire = new OptionWire();
        wire.wish(0, 0, 5, 0, 9);
        wire.open(0, 1);
        Check.ticks(wire, 3);
        wire.close(0);
        Check.same("tries when CLOSING", wire.tries(0), 8);
        Check.same("asked when CLOSING", wire.asked(0, 0), 5);
        Check.ticks(wire, 6);
        Check.same("tries when CLOSED", wire.tries(0), 8);
        Check.same("line when CLOSED", Check.line(wire, 0), "closed a5");
    }
}
