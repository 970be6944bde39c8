/** Promises 1 to 5, edge by edge; each test stands for the sentence above it. */
public final class WantsEdgesTest {
    private static final int NONE = OptionWire.NONE;

    public static void main(String[] args) {
        newObjectIsEmpty();
        newObjectIsNotLooped();
        wishEnds();
        wishOptions();
        wishValues();
        wishLeast();
        wishMost();
        wishMostBelowLeast();
        wishOutsideOfItsLimits();
        wishAtItsLimits();
        wishNoneHasNoLimits();
        wishBefore();
        wishOfAShutEnd();
        wishOfAnEndThatIsNotShut();
        wishLooksAtArgumentsFirst();
        allowEnds();
        allowOptions();
        allowLeast();
        allowMost();
        allowMostBelowLeast();
        allowOfAShutEnd();
        allowOfAnEndThatIsNotShut();
        allowLooksAtArgumentsFirst();
        refuseEnds();
        refuseOptions();
        refuseBefore();
        refuseOfAShutEnd();
        refuseOfAnEndThatIsNotShut();
        refuseLooksAtArgumentsFirst();
        loopBefore();
        loopInEveryState();
        Check.finish();
    }

    /** Wants that a call that throws could spoil: each end counters, and takes the counter. */
    private static OptionWire someWire() {
        return wireThatAllows(35, 62);
    }

    private static OptionWire wireThatAllows(int leastOfEndOne, int leastOfEndZero) {
        OptionWire wire = new OptionWire();
        wire.wish(0, 0, 30, 20, 40);
        wire.wish(1, 3, 60, 50, 70);
        wire.allow(0, 3, leastOfEndZero, 65);
        wire.allow(1, 0, leastOfEndOne, 36);
        wire.refuse(0, 1, true);
        wire.refuse(1, 2, true);
        return wire;
    }

    /** Wants that the ends agree on at once. */
    private static Check.Maker wireIn(int end, int state) {
        return () -> {
            OptionWire wire = wireThatAllows(25, 55);
            States.bring(wire, end, state);
            return wire;
        };
    }

    // 1: "Both ends CLOSED, the wire not looped, the time 0."
    private static void newObjectIsEmpty() {
        OptionWire wire = new OptionWire();
        Check.same("time", wire.time(), 0);
        for (int end = 0; end <= 1; end++) {
            Check.same("state", wire.state(end), OptionWire.CLOSED);
            Check.same("tries", wire.tries(end), 0);
            Check.same("asked", Check.asked(wire, end), "-1 -1 -1 -1");
            Check.same("waiting", wire.waiting(end), 0);
            Check.same("line", Check.line(wire, end), "closed");
        }
        Check.same("sent by a tick", wire.tick(), 0);
    }

    private static void newObjectIsNotLooped() {
        Check.same("loop(true)", new OptionWire().loop(true), false);
        Check.same("loop(false)", new OptionWire().loop(false), false);
        Check.same("waiting(1)", Check.played("o0:1").waiting(1), 1);
    }

    // 2: "end: 0 or 1"
    private static void wishEnds() {
        for (int end = 0; end <= 1; end++) {
            Check.same("wish(" + end + ", ..)", new OptionWire().wish(end, 0, 1, 0, 2), NONE);
        }
        for (int end : Wrong.ENDS) {
            Check.illegalArgument("wish(" + end + ", 0, 1, 0, 2)", WantsEdgesTest::someWire,
                    wire -> wire.wish(end, 0, 1, 0, 2));
        }
    }

    // 2: "option: 0 to 3"
    private static void wishOptions() {
        for (int option = 0; option <= 3; option++) {
            Check.same("wish(0, " + option + ", ..)", new OptionWire().wish(0, option, 1, 0, 2),
                    NONE);
        }
        for (int option : Wrong.OPTIONS) {
            Check.illegalArgument("wish(0, " + option + ", 1, 0, 2)", WantsEdgesTest::someWire,
                    wire -> wire.wish(0, option, 1, 0, 2));
        }
    }

    // 2: "wish: 0 to 100, or NONE"
    private static void wishValues() {
        for (int wish : new int[] {0, 1, 99, 100, NONE}) {
            OptionWire wire = new OptionWire();
            wire.wish(1, 2, wish, 0, 100);
            wire.open(1, 1);
            Check.same("asked behind wish " + wish, wire.asked(1, 2), wish);
        }
        for (int wish : new int[] {-2, 101, Integer.MIN_VALUE, Integer.MAX_VALUE}) {
            Check.illegalArgument("wish(0, 0, " + wish + ", 0, 100)", WantsEdgesTest::someWire,
                    wire -> wire.wish(0, 0, wish, 0, 100));
        }
    }

    // 2: "least: 0 to 100"
    private static void wishLeast() {
        Check.same("least 0", new OptionWire().wish(0, 0, 0, 0, 100), NONE);
        Check.same("least 100", new OptionWire().wish(0, 0, 100, 100, 100), NONE);
        for (int least : Wrong.LEASTS) {
            for (int wish : new int[] {NONE, 30}) {
                Check.illegalArgument("wish(0, 0, " + wish + ", " + least + ", 50)",
                        WantsEdgesTest::someWire, wire -> wire.wish(0, 0, wish, least, 50));
            }
        }
        Check.illegalArgument("wish(0, 0, NONE, 101, 101)", WantsEdgesTest::someWire,
                wire -> wire.wish(0, 0, NONE, 101, 101));
        Check.illegalArgument("wish(0, 0, 101, 101, 101)", WantsEdgesTest::someWire,
                wire -> wire.wish(0, 0, 101, 101, 101));
        Check.illegalArgument("wish(0, 0, NONE, NONE, NONE)", WantsEdgesTest::someWire,
                wire -> wire.wish(0, 0, NONE, NONE, NONE));
    }

    // 2: "most: least to 100"
    private static void wishMost() {
        Check.same("most 0", new OptionWire().wish(0, 0, 0, 0, 0), NONE);
        Check.same("most 100", new OptionWire().wish(0, 0, 99, 99, 100), NONE);
        for (int most : Wrong.MOSTS) {
            for (int wish : new int[] {NONE, 30}) {
                Check.illegalArgument("wish(0, 0, " + wish + ", 10, " + most + ")",
                        WantsEdgesTest::someWire, wire -> wire.wish(0, 0, wish, 10, most));
            }
        }
    }

    private static void wishMostBelowLeast() {
        Check.same("most is least", new OptionWire().wish(0, 0, NONE, 50, 50), NONE);
        int[][] ranges = {{50, 49}, {1, 0}, {100, 99}, {100, 0}, {0, -1}, {101, 100},
            {Integer.MAX_VALUE, Integer.MIN_VALUE}};
        for (int[] range : ranges) {
            for (int wish : new int[] {NONE, range[0], range[1]}) {
                Check.illegalArgument("wish(0, 0, " + wish + ", " + range[0] + ", " + range[1]
                        + ")", WantsEdgesTest::someWire,
                        wire -> wire.wish(0, 0, wish, range[0], range[1]));
            }
        }
    }

    // 2: "wish is not NONE and not within the limits"
    private static void wishOutsideOfItsLimits() {
        int[][] rows = {{19, 20, 30}, {31, 20, 30}, {0, 1, 1}, {2, 1, 1}, {99, 100, 100},
            {1, 0, 0}, {0, 100, 100}, {100, 0, 99}, {0, 1, 100}};
        for (int[] row : rows) {
            Check.illegalArgument("wish(0, 0, " + row[0] + ", " + row[1] + ", " + row[2] + ")",
                    WantsEdgesTest::someWire, wire -> wire.wish(0, 0, row[0], row[1], row[2]));
        }
    }

    private static void wishAtItsLimits() {
        int[][] rows = {{20, 20, 30}, {30, 20, 30}, {21, 20, 30}, {29, 20, 30}, {0, 0, 0},
            {100, 100, 100}, {50, 50, 50}, {0, 0, 100}, {100, 0, 100}};
        for (int[] row : rows) {
            OptionWire wire = new OptionWire();
            wire.wish(0, 0, row[0], row[1], row[2]);
            wire.open(0, 1);
            Check.same("asked for " + row[0] + " in " + row[1] + " to " + row[2],
                    wire.asked(0, 0), row[0]);
        }
    }

    private static void wishNoneHasNoLimits() {
        int[][] ranges = {{0, 0}, {0, 100}, {50, 60}, {100, 100}};
        for (int[] range : ranges) {
            OptionWire wire = someWire();
            Check.same("the wish before", wire.wish(0, 0, NONE, range[0], range[1]), 30);
            wire.open(0, 1);
            Check.same("asked", wire.asked(0, 0), NONE);
        }
    }

    // 2: "Returns the wish before."
    private static void wishBefore() {
        OptionWire wire = new OptionWire();
        Check.same("before the first wish", wire.wish(1, 1, 0, 0, 100), NONE);
        Check.same("behind the wish 0", wire.wish(1, 1, 100, 0, 100), 0);
        Check.same("behind the wish 100", wire.wish(1, 1, 100, 100, 100), 100);
        Check.same("behind the same wish", wire.wish(1, 1, NONE, 0, 100), 100);
        Check.same("behind NONE", wire.wish(1, 1, NONE, 0, 0), NONE);
        Check.same("of the other end", wire.wish(0, 1, 5, 0, 9), NONE);
        Check.same("of another option", wire.wish(1, 0, 5, 0, 9), NONE);
    }

    // 2: "IllegalStateException if the end is not shut"
    private static void wishOfAShutEnd() {
        for (int state : States.SHUT) {
            for (int end = 0; end <= 1; end++) {
                OptionWire wire = States.wireWithEndIn(end, state);
                wire.wish(end, 3, 8, 0, 100);
                Check.same("wish in state " + state, wire.wish(end, 3, 9, 0, 100), 8);
            }
        }
        OptionWire wire = someWire();
        wire.open(1, 1);
        Check.same("the other end is up", wire.wish(0, 0, 31, 0, 100), 30);
    }

    private static void wishOfAnEndThatIsNotShut() {
        for (int state : States.NOT_SHUT) {
            for (int end = 0; end <= 1; end++) {
                int at = end;
                Check.illegalState("wish in state " + state, wireIn(end, state),
                        wire -> wire.wish(at, 2, 9, 0, 100));
                Check.illegalState("wish NONE in state " + state, wireIn(end, state),
                        wire -> wire.wish(at, 2, NONE, 0, 100));
            }
        }
    }

    // "If several apply, the one that the throws clause names first is thrown."
    private static void wishLooksAtArgumentsFirst() {
        for (int state : States.NOT_SHUT) {
            Check.Maker maker = wireIn(0, state);
            Check.illegalArgument("wish, end", maker, wire -> wire.wish(2, 0, 1, 0, 2));
            Check.illegalArgument("wish, option", maker, wire -> wire.wish(0, 4, 1, 0, 2));
            Check.illegalArgument("wish, wish", maker, wire -> wire.wish(0, 0, -2, 0, 2));
            Check.illegalArgument("wish, least", maker, wire -> wire.wish(0, 0, 1, -1, 2));
            Check.illegalArgument("wish, most", maker, wire -> wire.wish(0, 0, 1, 0, 101));
            Check.illegalArgument("wish, limits", maker, wire -> wire.wish(0, 0, 3, 0, 2));
        }
    }

    // 3: "end: 0 or 1"
    private static void allowEnds() {
        for (int end : Wrong.ENDS) {
            Check.illegalArgument("allow(" + end + ", 0, 0, 2)", WantsEdgesTest::someWire,
                    wire -> wire.allow(end, 0, 0, 2));
        }
    }

    // 3: "option: 0 to 3"
    private static void allowOptions() {
        for (int option : Wrong.OPTIONS) {
            Check.illegalArgument("allow(1, " + option + ", 0, 2)", WantsEdgesTest::someWire,
                    wire -> wire.allow(1, option, 0, 2));
        }
    }

    // 3: "least: 0 to 100"
    private static void allowLeast() {
        Check.same("least 0 allows 0", answerTo(0, 0, 100), OptionWire.YES);
        Check.same("least 100 allows 100", answerTo(100, 100, 100), OptionWire.YES);
        Check.same("least 100 does not allow 99", answerTo(99, 100, 100), OptionWire.COUNTER);
        for (int least : Wrong.LEASTS) {
            Check.illegalArgument("allow(1, 0, " + least + ", 50)", WantsEdgesTest::someWire,
                    wire -> wire.allow(1, 0, least, 50));
        }
        Check.illegalArgument("allow(1, 0, 101, 101)", WantsEdgesTest::someWire,
                wire -> wire.allow(1, 0, 101, 101));
        Check.illegalArgument("allow(1, 0, NONE, NONE)", WantsEdgesTest::someWire,
                wire -> wire.allow(1, 0, NONE, NONE));
    }

    // 3: "most: least to 100"
    private static void allowMost() {
        Check.same("most 0 allows 0", answerTo(0, 0, 0), OptionWire.YES);
        Check.same("most 0 does not allow 1", answerTo(1, 0, 0), OptionWire.COUNTER);
        Check.same("most 100 allows 100", answerTo(100, 0, 100), OptionWire.YES);
        for (int most : Wrong.MOSTS) {
            Check.illegalArgument("allow(1, 0, 0, " + most + ")", WantsEdgesTest::someWire,
                    wire -> wire.allow(1, 0, 0, most));
        }
    }

    private static void allowMostBelowLeast() {
        Check.same("most is least", answerTo(50, 50, 50), OptionWire.YES);
        int[][] ranges = {{50, 49}, {1, 0}, {100, 99}, {100, 0}, {0, -1}, {101, 100},
            {Integer.MAX_VALUE, Integer.MIN_VALUE}};
        for (int[] range : ranges) {
            Check.illegalArgument("allow(1, 0, " + range[0] + ", " + range[1] + ")",
                    WantsEdgesTest::someWire, wire -> wire.allow(1, 0, range[0], range[1]));
        }
    }

    /** The kind of the answer to a request for a value, of an end that allows least to most. */
    private static int answerTo(int value, int least, int most) {
        OptionWire wire = new OptionWire();
        wire.wish(1, 3, value, 0, 100);
        wire.allow(0, 3, least, most);
        Check.play(wire, "o0:1 l1 o1:2 d0");
        return wire.kindAt(1, 0);
    }

    // 3: "IllegalStateException if the end is not shut"
    private static void allowOfAShutEnd() {
        for (int state : States.SHUT) {
            for (int end = 0; end <= 1; end++) {
                int other = 1 - end;
                OptionWire wire = new OptionWire();
                wire.wish(other, 3, 50, 0, 100);
                States.bring(wire, end, state);
                wire.allow(end, 3, 8, 9);
                Check.play(wire, "x0 x1 o" + end + ":1 o" + other + ":2 x" + other + " d" + end);
                Check.same("answer of an end that was in state " + state,
                        Check.kinds(wire, other), "[2]");
            }
        }
    }

    private static void allowOfAnEndThatIsNotShut() {
        for (int state : States.NOT_SHUT) {
            for (int end = 0; end <= 1; end++) {
                int at = end;
                Check.illegalState("allow in state " + state, wireIn(end, state),
                        wire -> wire.allow(at, 0, 80, 90));
                Check.illegalState("allow in state " + state, wireIn(end, state),
                        wire -> wire.allow(at, 3, 80, 90));
            }
        }
    }

    private static void allowLooksAtArgumentsFirst() {
        for (int state : States.NOT_SHUT) {
            Check.Maker maker = wireIn(1, state);
            Check.illegalArgument("allow, end", maker, wire -> wire.allow(-1, 0, 0, 2));
            Check.illegalArgument("allow, option", maker, wire -> wire.allow(1, -1, 0, 2));
            Check.illegalArgument("allow, least", maker, wire -> wire.allow(1, 0, -1, 2));
            Check.illegalArgument("allow, most", maker, wire -> wire.allow(1, 0, 0, 101));
            Check.illegalArgument("allow, bounds", maker, wire -> wire.allow(1, 0, 3, 2));
        }
    }

    // 4: "IllegalArgumentException if end or option is out of range"
    private static void refuseEnds() {
        for (int end : Wrong.ENDS) {
            for (boolean isRefused : new boolean[] {true, false}) {
                Check.illegalArgument("refuse(" + end + ", 1, " + isRefused + ")",
                        WantsEdgesTest::someWire, wire -> wire.refuse(end, 1, isRefused));
            }
        }
    }

    private static void refuseOptions() {
        for (int option : Wrong.OPTIONS) {
            for (boolean isRefused : new boolean[] {true, false}) {
                Check.illegalArgument("refuse(0, " + option + ", " + isRefused + ")",
                        WantsEdgesTest::someWire, wire -> wire.refuse(0, option, isRefused));
            }
        }
    }

    // 4: "Returns whether it did."
    private static void refuseBefore() {
        for (int end = 0; end <= 1; end++) {
            for (int option = 0; option <= 3; option++) {
                OptionWire wire = new OptionWire();
                Check.same("false, of a new object", wire.refuse(end, option, false), false);
                Check.same("true behind false", wire.refuse(end, option, true), false);
                Check.same("true behind true", wire.refuse(end, option, true), true);
                Check.same("of the other end", wire.refuse(1 - end, option, false), false);
                Check.same("of another option", wire.refuse(end, 3 - option, false), false);
                Check.same("false behind true", wire.refuse(end, option, false), true);
                Check.same("false behind false", wire.refuse(end, option, false), false);
            }
        }
    }

    // 4: "IllegalStateException if the end is not shut"
    private static void refuseOfAShutEnd() {
        for (int state : States.SHUT) {
            for (int end = 0; end <= 1; end++) {
                OptionWire wire = States.wireWithEndIn(end, state);
                Check.same("refuse in state " + state, wire.refuse(end, 3, true), false);
                Check.same("refuse again in state " + state, wire.refuse(end, 3, false), true);
            }
        }
    }

    private static void refuseOfAnEndThatIsNotShut() {
        for (int state : States.NOT_SHUT) {
            for (int end = 0; end <= 1; end++) {
                int at = end;
                Check.illegalState("refuse in state " + state, wireIn(end, state),
                        wire -> wire.refuse(at, 0, true));
                Check.illegalState("refuse no more in state " + state, wireIn(end, state),
                        wire -> wire.refuse(at, 1 + at, false));
            }
        }
    }

    private static void refuseLooksAtArgumentsFirst() {
        for (int state : States.NOT_SHUT) {
            Check.Maker maker = wireIn(0, state);
            Check.illegalArgument("refuse, end", maker, wire -> wire.refuse(2, 0, true));
            Check.illegalArgument("refuse, option", maker, wire -> wire.refuse(0, 4, true));
        }
    }

    // 5: "Returns whether it was."
    private static void loopBefore() {
        OptionWire wire = new OptionWire();
        boolean was = false;
        for (boolean isLooped : new boolean[] {false, true, true, false, false, true}) {
            Check.same("loop(" + isLooped + ")", wire.loop(isLooped), was);
            was = isLooped;
        }
    }

    // 5: "for packets that are sent from now on" (those that wait stay where they are)
    private static void loopInEveryState() {
        for (int state : States.ALL) {
            for (int end = 0; end <= 1; end++) {
                OptionWire wire = States.wireWithEndIn(end, state);
                String before = Check.standing(wire);
                Check.same("loop(true) in state " + state, wire.loop(true), false);
                Check.same("standing behind loop(true)", Check.standing(wire), before);
                Check.same("loop(false) in state " + state, wire.loop(false), true);
                Check.same("standing behind loop(false)", Check.standing(wire), before);
            }
        }
    }
}
