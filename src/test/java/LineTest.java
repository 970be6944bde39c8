/** Promises 19 and 20: lineLength and lineChar. */
public final class LineTest {
    private static final int[] NO_ENDS = {-1, 2, Integer.MIN_VALUE, Integer.MAX_VALUE};

    public static void main(String[] args) {
        linesTellTheStates();
        linesTellTheAskedValues();
        linesFollowTheAnswers();
        linesAreThoseOfTheirEnds();
        wrongArgumentsThrow();
        Check.finish();
    }

    private static void checkLine(OptionWire wire, int end, String due) {
        Check.same("lineLength", wire.lineLength(end), due.length());
        Check.same("line", Check.line(wire, end), due);
    }

    private static void linesTellTheStates() {
        String[] names = {
            "closed", "asking", "heard", "told", "opened", "closing", "failed", "looped",
        };
        for (int state = OptionWire.CLOSED; state <= OptionWire.LOOPED; state++) {
            checkLine(States.wireWithEndIn(0, state), 0, names[state]);
            checkLine(States.wireWithEndIn(1, state), 1, names[state]);
        }
    }

    private static void linesTellTheAskedValues() {
        String[] letters = {"a", "b", "c", "d"};
        for (int option = 0; option <= 3; option++) {
            for (int value : new int[] {0, 1, 9, 10, 11, 99, 100}) {
                OptionWire wire = new OptionWire();
                wire.wish(1, option, value, 0, 100);
                checkLine(wire, 1, "closed");
                wire.open(1, 1);
                checkLine(wire, 1, "asking " + letters[option] + value);
            }
        }
        OptionWire wire = new OptionWire();
        for (int option = 0; option <= 3; option++) {
            wire.wish(0, option, 100 - option, 0, 100);
        }
        Check.play(wire, "o0:1 c0");
        checkLine(wire, 0, "closing a100 b99 c98 d97");
    }

    private static void linesFollowTheAnswers() {
        OptionWire wire = new OptionWire();
        wire.wish(0, 0, 100, 0, 100);
        wire.wish(0, 1, 50, 0, 100);
        wire.wish(0, 2, 7, 0, 100);
        wire.wish(0, 3, 0, 0, 100);
        wire.allow(1, 0, 0, 9);
        wire.refuse(1, 1, true);
        Check.play(wire, "o1:2 o0:1 l0");
        checkLine(wire, 0, "asking a100 b50 c7 d0");
        Check.play(wire, "d1 d0");
        checkLine(wire, 0, "asking a100 c7 d0");
        Check.play(wire, "d1 d0");
        checkLine(wire, 0, "asking a9 c7 d0");
        Check.play(wire, "d1 d0");
        checkLine(wire, 0, "heard a9 c7 d0");
        Check.play(wire, "c0 t6");
        checkLine(wire, 0, "closed a9 c7 d0");
    }

    private static void linesAreThoseOfTheirEnds() {
        OptionWire wire = new OptionWire();
        wire.wish(0, 2, 12, 0, 100);
        wire.wish(1, 1, 3, 0, 100);
        Check.play(wire, "o0:1 o1:2 d1");
        Check.same("a letter of the end 0", wire.lineChar(0, 7), 'c');
        Check.same("a letter of the end 1", wire.lineChar(1, 5), 'b');
        checkLine(wire, 0, "asking c12");
        checkLine(wire, 1, "told b3");
    }

    private static void wrongArgumentsThrow() {
        OptionWire wire = new OptionWire();
        wire.wish(0, 2, 12, 0, 100);
        wire.open(0, 1);
        for (int end : NO_ENDS) {
            Check.illegalArgument("lineLength(" + end + ")", wire, () -> wire.lineLength(end));
            Check.illegalArgument("lineChar(" + end + ", 0)", wire, () -> wire.lineChar(end, 0));
            Check.illegalArgument("lineChar(" + end + ", -1)", wire, () -> wire.lineChar(end, -1));
            Check.illegalArgument("lineChar(" + end + ", 99)", wire, () -> wire.lineChar(end, 99));
        }
        Check.same("the last letter", wire.lineChar(0, 9), '2');
        for (int place : new int[] {-1, 10, 11, Integer.MIN_VALUE, Integer.MAX_VALUE}) {
            Check.noSuchElement("lineChar(0, " + place + ")", wire, () -> wire.lineChar(0, place));
        }
        for (int place : new int[] {-1, 6, 7, Integer.MIN_VALUE, Integer.MAX_VALUE}) {
            Check.noSuchElement("lineChar(1, " + place + ")", wire, () -> wire.lineChar(1, place));
        }
    }
}
