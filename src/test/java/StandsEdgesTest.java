/** Promises 12 to 16, 19 and 20, edge by edge; each test stands for the sentence above it. */
public final class StandsEdgesTest {
    private static final int NONE = OptionWire.NONE;
    private static final String NO_VALUES = "-1 -1 -1 -1";

    public static void main(String[] args) {
        stateEnds();
        stateOfEveryKind();
        triesEnds();
        triesBeforeOpen();
        triesAreZeroToTen();
        triesOfShutEnds();
        askedEnds();
        askedOptions();
        askedOfAnEndNeverOpened();
        askedWhereNoneIs();
        askedAtTheEdgesOfValues();
        grantedEnds();
        grantedOptions();
        grantedInEveryState();
        grantedWhereNoneIsAsked();
        allowedEnds();
        allowedOptions();
        allowedInEveryState();
        allowedWhereTheRequestHadNone();
        allowedOfTheLatestYes();
        lineLengthEnds();
        lineLengthOfEveryState();
        shortestLine();
        longestLine();
        lineOfEveryNumberOfDigits();
        lineCharEnds();
        lineCharPlaceBelowZero();
        lineCharPlaceBehindTheLast();
        lineCharLooksAtTheEndFirst();
        Check.finish();
    }

    /** The end 0 asks for 0 and 100, the end 1 for 1 and 99. */
    private static OptionWire wishingWire() {
        OptionWire wire = new OptionWire();
        wire.wish(0, 0, 0, 0, 100);
        wire.wish(0, 3, 100, 0, 100);
        wire.wish(1, 1, 1, 0, 100);
        wire.wish(1, 3, 99, 0, 100);
        return wire;
    }

    private static OptionWire wishingWireIn(int end, int state) {
        OptionWire wire = wishingWire();
        States.bring(wire, end, state);
        return wire;
    }

    private static OptionWire openedWire() {
        return wishingWireIn(0, OptionWire.OPENED);
    }

    private static String wishes(int end) {
        return end == 0 ? "0 -1 -1 100" : "-1 1 -1 99";
    }

    private static String granted(OptionWire wire, int end) {
        return wire.granted(end, 0) + " " + wire.granted(end, 1) + " "
                + wire.granted(end, 2) + " " + wire.granted(end, 3);
    }

    private static String allowed(OptionWire wire, int end) {
        return wire.allowed(end, 0) + " " + wire.allowed(end, 1) + " "
                + wire.allowed(end, 2) + " " + wire.allowed(end, 3);
    }

    // 12: "IllegalArgumentException if end is out of range"
    private static void stateEnds() {
        for (int end : Wrong.ENDS) {
            Check.illegalArgument("state(" + end + ")", StandsEdgesTest::openedWire,
                    wire -> wire.state(end));
        }
    }

    // 12: "Returns the state."
    private static void stateOfEveryKind() {
        for (int state : States.ALL) {
            for (int end = 0; end <= 1; end++) {
                Check.same("state", wishingWireIn(end, state).state(end), state);
            }
        }
    }

    // 13: "IllegalArgumentException if end is out of range"
    private static void triesEnds() {
        for (int end : Wrong.ENDS) {
            Check.illegalArgument("tries(" + end + ")", StandsEdgesTest::openedWire,
                    wire -> wire.tries(end));
        }
    }

    // 13: "0 before it was ever opened"
    private static void triesBeforeOpen() {
        Check.same("tries on a new object", new OptionWire().tries(0), 0);
        OptionWire wire = Check.played("o0:1 t9 d1 c0 d1");
        Check.same("tries of an end that only heard packets", wire.tries(1), 0);
    }

    // 13: "Returns 0 to 10"
    private static void triesAreZeroToTen() {
        OptionWire wire = Check.played("o0:1");
        for (int left = 9; left >= 0; left--) {
            Check.same("tries", wire.tries(0), left);
            Check.play(wire, "t3");
        }
        Check.same("tries when FAILED", wire.tries(0), 0);
        Check.same("tries when OPENED", openedWire().tries(0), 10);
        Check.same("tries when OPENED", openedWire().tries(1), 10);
    }

    private static void triesOfShutEnds() {
        OptionWire wire = openedWire();
        Check.play(wire, "c0 d1");
        Check.same("tries when CLOSING", wire.tries(0), 10);
        Check.same("tries when CLOSED", wire.tries(1), 10);
        Check.same("tries when LOOPED", States.wireWithEndIn(0, OptionWire.LOOPED).tries(0), 7);
    }

    // 14: "IllegalArgumentException if end or option is out of range"
    private static void askedEnds() {
        for (int end : Wrong.ENDS) {
            Check.illegalArgument("asked(" + end + ", 0)", StandsEdgesTest::openedWire,
                    wire -> wire.asked(end, 0));
        }
    }

    private static void askedOptions() {
        for (int option : Wrong.OPTIONS) {
            for (int end = 0; end <= 1; end++) {
                int at = end;
                Check.illegalArgument("asked(" + end + ", " + option + ")",
                        StandsEdgesTest::openedWire, wire -> wire.asked(at, option));
            }
        }
    }

    // 14: "NONE if none is asked, or the end was never opened."
    private static void askedOfAnEndNeverOpened() {
        OptionWire wire = wishingWire();
        Check.same("asked by the end 0", Check.asked(wire, 0), NO_VALUES);
        Check.play(wire, "o0:1 d1");
        Check.same("asked by the end 1", Check.asked(wire, 1), NO_VALUES);
        Check.same("line of the end 1", Check.line(wire, 1), "closed");
    }

    private static void askedWhereNoneIs() {
        OptionWire wire = wishingWire();
        Check.play(wire, "o0:1");
        Check.same("asked(0, 1)", wire.asked(0, 1), NONE);
        Check.same("asked(0, 2)", wire.asked(0, 2), NONE);
    }

    private static void askedAtTheEdgesOfValues() {
        OptionWire wire = wishingWire();
        Check.play(wire, "o0:1 o1:2");
        Check.same("asked(0, 0)", wire.asked(0, 0), 0);
        Check.same("asked(0, 3)", wire.asked(0, 3), 100);
        Check.same("asked by the end 1", Check.asked(wire, 1), wishes(1));
    }

    // 15: "IllegalArgumentException if end or option is out of range"
    private static void grantedEnds() {
        for (int end : Wrong.ENDS) {
            Check.illegalArgument("granted(" + end + ", 0)", StandsEdgesTest::openedWire,
                    wire -> wire.granted(end, 0));
        }
    }

    private static void grantedOptions() {
        for (int option : Wrong.OPTIONS) {
            Check.illegalArgument("granted(0, " + option + ")", StandsEdgesTest::openedWire,
                    wire -> wire.granted(0, option));
            Check.illegalArgument("granted(0, " + option + ") of a CLOSED end", OptionWire::new,
                    wire -> wire.granted(0, option));
        }
    }

    // 15: "the asked value, if it is HEARD or OPENED", "NONE otherwise"
    private static void grantedInEveryState() {
        for (int state : States.ALL) {
            boolean isGranted = state == OptionWire.HEARD || state == OptionWire.OPENED;
            for (int end = 0; end <= 1; end++) {
                Check.same("granted in state " + state, granted(wishingWireIn(end, state), end),
                        isGranted ? wishes(end) : NO_VALUES);
            }
        }
    }

    private static void grantedWhereNoneIsAsked() {
        OptionWire wire = States.wireWithEndIn(0, OptionWire.OPENED);
        Check.same("granted by the end 0", granted(wire, 0), NO_VALUES);
        Check.same("granted by the end 1", granted(wire, 1), NO_VALUES);
    }

    // 16: "IllegalArgumentException if end or option is out of range"
    private static void allowedEnds() {
        for (int end : Wrong.ENDS) {
            Check.illegalArgument("allowed(" + end + ", 0)", StandsEdgesTest::openedWire,
                    wire -> wire.allowed(end, 0));
        }
    }

    private static void allowedOptions() {
        for (int option : Wrong.OPTIONS) {
            Check.illegalArgument("allowed(1, " + option + ")", StandsEdgesTest::openedWire,
                    wire -> wire.allowed(1, option));
            Check.illegalArgument("allowed(1, " + option + ") of a CLOSED end", OptionWire::new,
                    wire -> wire.allowed(1, option));
        }
    }

    // 16: "if it is TOLD or OPENED", "NONE [..] otherwise"
    private static void allowedInEveryState() {
        for (int state : States.ALL) {
            boolean hasAllowed = state == OptionWire.TOLD || state == OptionWire.OPENED;
            for (int end = 0; end <= 1; end++) {
                Check.same("allowed in state " + state, allowed(wishingWireIn(end, state), end),
                        hasAllowed ? wishes(1 - end) : NO_VALUES);
            }
        }
        for (int state : States.SHUT_OR_CLOSING) {
            Check.same("allowed in state " + state + ", once OPENED",
                    allowed(onceOpenedNow(state), 1), NO_VALUES);
        }
    }

    /** The end 1 was OPENED, then came to this state. */
    private static OptionWire onceOpenedNow(int state) {
        OptionWire wire = openedWire();
        if (state == OptionWire.CLOSED || state == OptionWire.CLOSING) {
            Check.play(wire, state == OptionWire.CLOSED ? "c0 d1" : "c1");
        } else if (state == OptionWire.FAILED) {
            Check.play(wire, "c0 t6 x1 o0:3 d1 t30");
        } else {
            Check.play(wire, "c0 t6 x1 o0:2 t6 d1 d1 d1");
        }
        Check.same("state that was to be reached", wire.state(1), state);
        return wire;
    }

    // 16: "NONE if the request did not have the option"
    private static void allowedWhereTheRequestHadNone() {
        OptionWire wire = openedWire();
        Check.same("allowed(1, 1)", wire.allowed(1, 1), NONE);
        Check.same("allowed(1, 2)", wire.allowed(1, 2), NONE);
        OptionWire empty = States.wireWithEndIn(1, OptionWire.TOLD);
        Check.same("allowed without wishes", allowed(empty, 1), NO_VALUES);
    }

    // 16: "that of the request to which it said yes last"
    private static void allowedOfTheLatestYes() {
        OptionWire wire = wishingWire();
        wire.allow(1, 0, 0, 9);
        Check.play(wire, "o0:1 o1:2 d1");
        Check.same("allowed behind the first yes", allowed(wire, 1), "0 -1 -1 100");
        Check.play(wire, "x0 q0");
        Check.same("state(0)", wire.state(0), OptionWire.CLOSED);
        wire.wish(0, 0, NONE, 0, 100);
        wire.wish(0, 1, 7, 0, 100);
        Check.play(wire, "o0:1 d1");
        Check.same("allowed behind the second yes", allowed(wire, 1), "-1 7 -1 100");
    }

    // 19: "IllegalArgumentException if end is out of range"
    private static void lineLengthEnds() {
        for (int end : Wrong.ENDS) {
            Check.illegalArgument("lineLength(" + end + ")", StandsEdgesTest::openedWire,
                    wire -> wire.lineLength(end));
        }
    }

    // 19: "its state in small letters"
    private static void lineLengthOfEveryState() {
        String[] names = {
            "closed", "asking", "heard", "told", "opened", "closing", "failed", "looped",
        };
        for (int state : States.ALL) {
            for (int end = 0; end <= 1; end++) {
                OptionWire wire = States.wireWithEndIn(end, state);
                Check.same("length in state " + state, wire.lineLength(end),
                        names[state].length());
                Check.same("line in state " + state, Check.line(wire, end), names[state]);
            }
        }
    }

    private static void shortestLine() {
        OptionWire wire = States.wireWithEndIn(0, OptionWire.TOLD);
        Check.same("length", wire.lineLength(0), 4);
        Check.same("last letter", wire.lineChar(0, 3), 'd');
    }

    private static OptionWire wireWithTheLongestLine() {
        OptionWire wire = new OptionWire();
        for (int option = 0; option <= 3; option++) {
            wire.wish(1, option, 100, 100, 100);
        }
        Check.play(wire, "o1:1 c1");
        return wire;
    }

    private static void longestLine() {
        OptionWire wire = wireWithTheLongestLine();
        Check.same("length", wire.lineLength(1), 27);
        Check.same("line", Check.line(wire, 1), "closing a100 b100 c100 d100");
    }

    // 19: "the value by its digits"
    private static void lineOfEveryNumberOfDigits() {
        for (int option = 0; option <= 3; option++) {
            for (int value : new int[] {0, 9, 10, 99, 100}) {
                OptionWire wire = new OptionWire();
                wire.wish(0, option, value, 0, 100);
                Check.play(wire, "o0:1");
                String due = "asking " + "abcd".charAt(option) + value;
                Check.same("length", wire.lineLength(0), due.length());
                Check.same("line", Check.line(wire, 0), due);
            }
        }
    }

    // 20: "IllegalArgumentException if end is out of range"
    private static void lineCharEnds() {
        for (int end : Wrong.ENDS) {
            Check.illegalArgument("lineChar(" + end + ", 0)", StandsEdgesTest::openedWire,
                    wire -> wire.lineChar(end, 0));
        }
    }

    // 20: "NoSuchElementException if place is below 0"
    private static void lineCharPlaceBelowZero() {
        Check.same("lineChar(0, 0)", new OptionWire().lineChar(0, 0), 'c');
        for (int place : new int[] {-1, -6, Integer.MIN_VALUE}) {
            Check.noSuchElement("lineChar(0, " + place + ")", OptionWire::new,
                    wire -> wire.lineChar(0, place));
        }
    }

    // 20: "or the line is not so long"
    private static void lineCharPlaceBehindTheLast() {
        Check.same("lineChar(0, 5)", new OptionWire().lineChar(0, 5), 'd');
        for (int place : new int[] {6, 7, 100, Integer.MAX_VALUE}) {
            Check.noSuchElement("lineChar(0, " + place + ")", OptionWire::new,
                    wire -> wire.lineChar(0, place));
        }
        Check.same("lineChar(1, 26)", wireWithTheLongestLine().lineChar(1, 26), '0');
        for (int place : new int[] {27, 28, Integer.MAX_VALUE}) {
            Check.noSuchElement("lineChar(1, " + place + ") of the longest line",
                    StandsEdgesTest::wireWithTheLongestLine, wire -> wire.lineChar(1, place));
        }
        Check.noSuchElement("lineChar(0, 6) of the other end",
                StandsEdgesTest::wireWithTheLongestLine, wire -> wire.lineChar(0, 6));
    }

    // "If several apply, the one that the throws clause names first is thrown."
    private static void lineCharLooksAtTheEndFirst() {
        for (int end : Wrong.ENDS) {
            for (int place : new int[] {-1, 6, Integer.MIN_VALUE, Integer.MAX_VALUE}) {
                Check.illegalArgument("lineChar(" + end + ", " + place + ")", OptionWire::new,
                        wire -> wire.lineChar(end, place));
            }
        }
    }
}
