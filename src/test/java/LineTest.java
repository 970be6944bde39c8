/** Promises 19 and 20: lineLength and lineChar. */
public final class LineTest {
    public static void main(String[] args) {
        linesTellTheAskedValues();
        linesFollowTheAnswers();
        linesAreThoseOfTheirEnds();
        Check.finish();
    }

    private static void checkLine(OptionWire wire, int end, String due) {
        Check.same("lineLength", wire.lineLength(end), due.length());
        Check.same("line", Check.line(wire, end), due);
    }

    private static void linesTellTheAskedValues() {
        String[] letters = {"a", "b", "c", "d"};
        for (int option = 0; option <= 3; option++) {
            for (int value : new int[] {0, 1, 9, 10, 11, 99, 100}) {
                OptionWire wire = new OptionWire();
                wire.wish(1, option, value, 0, 100);
                checkLine(wire, 1, "closed");
                wire.open(1, 1);
                checkLine(wire, 1, "asking " + letters[option] + value);
            }
        }
        OptionWire wire = new OptionWire();
        for (int option = 0; option <= 3; option++) {
            wire.wish(0, option, 100 - option, 0, 100);
        }
        Check.play(wire, "o0:1 c0");
        checkLine(wire, 0, "closing a100 b99 c98 d97");
    }

    private static void linesFollowTheAnswers() {
        OptionWire wire = new OptionWire();
        wire.wish(0, 0, 100, 0, 100);
        wire.wish(0, 1, 50, 0, 100);
        wire.wish(0, 2, 7, 0, 100);
        wire.wish(0, 3, 0, 0, 100);
        wire.allow(1, 0, 0, 9);
        wire.refuse(1, 1, true);
        Check.play(wire, "o1:2 o0:1 l0");
        checkLine(wire, 0, "asking a100 b50 c7 d0");
        Check.play(wire, "d1 d0");
        checkLine(wire, 0, "asking a100 c7 d0");
        Check.play(wire, "d1 d0");
        checkLine(wire, 0, "asking a9 c7 d0");
        Check.play(wire, "d1 d0");
        checkLine(wire, 0, "heard a9 c7 d0");
        Check.play(wire, "c0 t6");
        checkLine(wire, 0, "closed a9 c7 d0");
    }

    private static void linesAreThoseOfTheirEnds() {
        OptionWire wire = new OptionWire();
        wire.wish(0, 2, 12, 0, 100);
        wire.wish(1, 1, 3, 0, 100);
        Check.play(wire, "o0:1 o1:2 d1");
        Check.same("a letter of the end 0", wire.lineChar(0, 7), 'c');
        Check.same("a letter of the end 1", wire.lineChar(1, 5), 'b');
        checkLine(wire, 0, "asking c12");
        checkLine(wire, 1, "told b3");
    }
}
