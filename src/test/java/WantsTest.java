/** Promises 1 to 5: a new object, wish, allow, refuse, loop. */
public final class WantsTest {
    private static final int[] NO_ENDS = {-1, 2, Integer.MIN_VALUE, Integer.MAX_VALUE};
    private static final int[] NO_OPTIONS = {-1, 4, Integer.MIN_VALUE, Integer.MAX_VALUE};
    private static final int[][] NO_RANGES = {
        {-1, 50}, {0, 101}, {101, 101}, {51, 50}, {100, 0}, {-1, -1}, {0, -1}, {1, 0},
        {Integer.MIN_VALUE, 50}, {50, Integer.MAX_VALUE}, {Integer.MIN_VALUE, Integer.MAX_VALUE},
        {Integer.MAX_VALUE, Integer.MIN_VALUE},
    };

    public static void main(String[] args) {
        newObjectIsClosedAndEmpty();
        objectsAreApart();
        newObjectHasWidestBounds();
        newObjectHasWidestLimits();
        newObjectRefusesNothingAndIsNotLooped();
        wishReturnsTheWishBefore();
        wishIsAskedFromTheNextOpenOn();
        limitsHoldForCounters();
        wishOutOfRangeThrows();
        wishThatThrowsChangesNothing();
        boundsHoldForRequests();
        allowOutOfRangeThrows();
        allowThatThrowsChangesNothing();
        refuseReturnsWhatWasBefore();
        refusedOptionsAreRefused();
        refuseOutOfRangeThrows();
        wantsAreSetOfShutEndsOnly();
        argumentsAreLookedAtBeforeTheState();
        loopReturnsWhatWasBefore();
        loopIsForPacketsSentFromNowOn();
        Check.finish();
    }

    private static void newObjectIsClosedAndEmpty() {
        String end = ": closed, state 0, tries 0, asked/granted/allowed"
                + " -1/-1/-1 -1/-1/-1 -1/-1/-1 -1/-1/-1, waiting []";
        Check.same("a new object", Check.standing(new OptionWire()),
                "time 0; end 0" + end + "; end 1" + end);
    }

    private static void objectsAreApart() {
        OptionWire used = new OptionWire();
        OptionWire other = new OptionWire();
        String before = Check.standing(other);
        used.wish(0, 0, 5, 0, 100);
        used.refuse(1, 0, true);
        used.loop(true);
        used.open(0, 3);
        used.tick();
        Check.same("another object", Check.standing(other), before);
        Check.same("wish of another object", other.wish(0, 0, 1, 0, 100), -1);
        Check.same("refusal of another object", other.refuse(1, 0, true), false);
        Check.same("loop of another object", other.loop(true), false);
    }

    private static void newObjectHasWidestBounds() {
        for (int option = 0; option <= 3; option++) {
            for (int value = 0; value <= 100; value += 100) {
                OptionWire wire = new OptionWire();
                wire.wish(0, option, value, value, value);
                Check.openBoth(wire);
                Check.same("granted in widest bounds", wire.granted(0, option), value);
                Check.same("allowed in widest bounds", wire.allowed(1, option), value);
            }
        }
    }

    private static void newObjectHasWidestLimits() {
        for (int option = 0; option <= 3; option++) {
            for (int value = 0; value <= 100; value += 100) {
                OptionWire wire = new OptionWire();
                counterAnEndWithoutWishes(wire, option, value);
                Check.same("asked within widest limits", wire.asked(1, option), value);
            }
        }
    }

    /**
     * The end 0 judges an old request of its own that the looped wire brought back, and its COUNTER
     * to the number 1 goes to the end 1, whose own latest request has the number 1, too.
     */
    private static void counterAnEndWithoutWishes(OptionWire wire, int option, int value) {
        wire.wish(0, option, 100 - value, 0, 100);
        wire.allow(0, option, value, value);
        wire.loop(true);
        wire.open(0, 1);
        wire.loop(false);
        wire.close(0);
        Check.ticks(wire, 6);
        wire.open(0, 2);
        Check.deliverAll(wire, 1);
        wire.open(1, 3);
        wire.deliver(0);
        Check.same("packets to an end without wishes", Check.kinds(wire, 1), "[2]");
        wire.deliver(1);
    }

    private static void newObjectRefusesNothingAndIsNotLooped() {
        OptionWire wire = new OptionWire();
        for (int end = 0; end <= 1; end++) {
            for (int option = 0; option <= 3; option++) {
                Check.same("refuse of a new object", wire.refuse(end, option, false), false);
            }
        }
        wire.open(0, 1);
        Check.same("waiting(0), not looped", wire.waiting(0), 0);
        Check.same("waiting(1), not looped", wire.waiting(1), 1);
        Check.same("loop(false) of a new object", wire.loop(false), false);
    }

    private static void wishReturnsTheWishBefore() {
        OptionWire wire = new OptionWire();
        for (int end = 0; end <= 1; end++) {
            for (int option = 0; option <= 3; option++) {
                int value = 10 * end + option;
                Check.same("first wish", wire.wish(end, option, value, 0, 100), -1);
            }
        }
        for (int end = 0; end <= 1; end++) {
            for (int option = 0; option <= 3; option++) {
                int value = 10 * end + option;
                Check.same("wish NONE", wire.wish(end, option, -1, 0, 100), value);
                Check.same("wish behind NONE", wire.wish(end, option, 100, 100, 100), -1);
                Check.same("wish 0", wire.wish(end, option, 0, 0, 0), 100);
                Check.same("wish at the least", wire.wish(end, option, 20, 20, 30), 0);
                Check.same("wish at the most", wire.wish(end, option, 30, 20, 30), 20);
                Check.same("last wish", wire.wish(end, option, -1, 0, 0), 30);
            }
        }
        Check.same("asked before open()", Check.asked(wire, 0), "-1 -1 -1 -1");
    }

    private static void wishIsAskedFromTheNextOpenOn() {
        OptionWire wire = new OptionWire();
        wire.wish(0, 0, 0, 0, 100);
        wire.wish(0, 2, 100, 0, 100);
        wire.wish(1, 3, 7, 0, 100);
        wire.open(0, 1);
        wire.open(1, 2);
        Check.same("asked(0)", Check.asked(wire, 0), "0 -1 100 -1");
        Check.same("asked(1)", Check.asked(wire, 1), "-1 -1 -1 7");
        wire.close(0);
        Check.ticks(wire, 6);
        wire.wish(0, 0, -1, 0, 100);
        wire.wish(0, 1, 4, 0, 100);
        Check.same("asked(0) when shut", Check.asked(wire, 0), "0 -1 100 -1");
        wire.open(0, 1);
        Check.same("asked(0) when open again", Check.asked(wire, 0), "-1 4 100 -1");
    }

    private static void limitsHoldForCounters() {
        int[][] rows = { // least and most that it asks for, the counter, asked then
            {40, 60, 39, -1}, {40, 60, 40, 40}, {40, 60, 60, 60}, {40, 60, 61, -1},
            {0, 100, 0, 0}, {0, 100, 100, 100}, {50, 50, 51, -1}, {50, 50, 49, -1},
        };
        for (int[] row : rows) {
            for (int option = 0; option <= 3; option++) {
                OptionWire wire = new OptionWire();
                wire.wish(0, option, 50, row[0], row[1]);
                wire.allow(1, option, row[2], row[2]);
                wire.open(0, 1);
                wire.open(1, 2);
                wire.lose(0);
                wire.deliver(1);
                Check.same("kind", wire.kindAt(0, 0), OptionWire.COUNTER);
                wire.deliver(0);
                Check.same("asked behind the counter " + row[2] + " in " + row[0] + " to "
                        + row[1], wire.asked(0, option), row[3]);
            }
        }
    }

    private static void wishOutOfRangeThrows() {
        OptionWire wire = new OptionWire();
        for (int end : NO_ENDS) {
            Check.illegalArgument("wish(" + end + ", 0, 1, 0, 2)", wire,
                    () -> wire.wish(end, 0, 1, 0, 2));
        }
        for (int option : NO_OPTIONS) {
            Check.illegalArgument("wish(0, " + option + ", 1, 0, 2)", wire,
                    () -> wire.wish(0, option, 1, 0, 2));
        }
        for (int[] range : NO_RANGES) {
            Check.illegalArgument("wish(1, 3, -1, " + range[0] + ", " + range[1] + ")", wire,
                    () -> wire.wish(1, 3, -1, range[0], range[1]));
            Check.illegalArgument("wish(1, 3, 50, " + range[0] + ", " + range[1] + ")", wire,
                    () -> wire.wish(1, 3, 50, range[0], range[1]));
        }
        for (int wish : new int[] {-2, 101, Integer.MIN_VALUE, Integer.MAX_VALUE}) {
            Check.illegalArgument("wish(1, 0, " + wish + ", 0, 100)", wire,
                    () -> wire.wish(1, 0, wish, 0, 100));
        }
        Check.illegalArgument("wish(0, 0, 9, 10, 20)", wire, () -> wire.wish(0, 0, 9, 10, 20));
        Check.illegalArgument("wish(0, 0, 21, 10, 20)", wire, () -> wire.wish(0, 0, 21, 10, 20));
        Check.illegalArgument("wish(0, 0, 0, 1, 1)", wire, () -> wire.wish(0, 0, 0, 1, 1));
    }

    private static void wishThatThrowsChangesNothing() {
        OptionWire wire = new OptionWire();
        wire.wish(0, 1, 50, 45, 55);
        wire.allow(1, 1, 0, 40);
        Check.illegalArgument("wish(0, 1, 30, 40, 60)", wire, () -> wire.wish(0, 1, 30, 40, 60));
        Check.illegalArgument("wish(0, 1, 61, 40, 60)", wire, () -> wire.wish(0, 1, 61, 40, 60));
        Check.illegalArgument("wish(0, 1, 50, 40, 101)", wire, () -> wire.wish(0, 1, 50, 40, 101));
        wire.open(0, 1);
        Check.illegalState("wish(0, 1, 50, 40, 60)", wire, () -> wire.wish(0, 1, 50, 40, 60));
        Check.same("asked is the wish before", wire.asked(0, 1), 50);
        wire.open(1, 2);
        wire.deliver(1);
        wire.lose(0);
        wire.deliver(0);
        Check.same("40 is not within the limits before", wire.asked(0, 1), -1);
        wire.close(0);
        Check.ticks(wire, 6);
        Check.same("the wish before", wire.wish(0, 1, 1, 0, 100), 50);
    }

    private static void boundsHoldForRequests() {
        int[][] rows = { // bounds, the value that is asked, the counter or NONE for yes
            {40, 60, 39, 40}, {40, 60, 40, -1}, {40, 60, 60, -1}, {40, 60, 61, 60},
            {0, 0, 1, 0}, {100, 100, 99, 100}, {0, 100, 0, -1}, {0, 100, 100, -1},
        };
        for (int[] row : rows) {
            for (int option = 0; option <= 3; option++) {
                OptionWire wire = new OptionWire();
                wire.wish(0, option, row[2], 0, 100);
                wire.allow(1, option, row[0], row[1]);
                wire.allow(0, option, 7, 7);
                wire.open(1, 2);
                wire.open(0, 1);
                wire.lose(0);
                wire.deliver(1);
                String what = row[2] + " within " + row[0] + " to " + row[1];
                boolean isGood = row[3] == -1;
                Check.same(what, wire.kindAt(0, 0),
                        isGood ? OptionWire.YES : OptionWire.COUNTER);
                wire.deliver(0);
                Check.same("asked, " + what, wire.asked(0, option), isGood ? row[2] : row[3]);
            }
        }
    }

    private static void allowOutOfRangeThrows() {
        OptionWire wire = new OptionWire();
        for (int end : NO_ENDS) {
            Check.illegalArgument("allow(" + end + ", 0, 0, 2)", wire,
                    () -> wire.allow(end, 0, 0, 2));
        }
        for (int option : NO_OPTIONS) {
            Check.illegalArgument("allow(1, " + option + ", 0, 2)", wire,
                    () -> wire.allow(1, option, 0, 2));
        }
        for (int[] range : NO_RANGES) {
            Check.illegalArgument("allow(0, 3, " + range[0] + ", " + range[1] + ")", wire,
                    () -> wire.allow(0, 3, range[0], range[1]));
        }
    }

    private static void allowThatThrowsChangesNothing() {
        OptionWire wire = new OptionWire();
        wire.allow(1, 2, 20, 30);
        wire.wish(0, 2, 25, 0, 100);
        Check.illegalArgument("allow(1, 2, 0, 101)", wire, () -> wire.allow(1, 2, 0, 101));
        Check.illegalArgument("allow(1, 2, 10, 5)", wire, () -> wire.allow(1, 2, 10, 5));
        Check.illegalArgument("allow(1, 2, -1, 5)", wire, () -> wire.allow(1, 2, -1, 5));
        wire.open(1, 2);
        Check.illegalState("allow(1, 2, 0, 5)", wire, () -> wire.allow(1, 2, 0, 5));
        wire.open(0, 1);
        wire.deliver(1);
        Check.same("25 is within the bounds before", wire.allowed(1, 2), 25);
    }

    private static void refuseReturnsWhatWasBefore() {
        OptionWire wire = new OptionWire();
        for (int end = 0; end <= 1; end++) {
            for (int option = 0; option <= 3; option++) {
                Check.same("refuse, first", wire.refuse(end, option, true), false);
                Check.same("refuse, second", wire.refuse(end, option, true), true);
                Check.same("refuse, third", wire.refuse(end, option, false), true);
                Check.same("refuse, fourth", wire.refuse(end, option, option == 2), false);
            }
        }
        for (int option = 0; option <= 3; option++) {
            Check.same("refuse, last", wire.refuse(0, option, false), option == 2);
        }
    }

    private static void refusedOptionsAreRefused() {
        OptionWire wire = new OptionWire();
        for (int option = 0; option <= 3; option++) {
            wire.wish(0, option, 10 + option, 0, 100);
            wire.refuse(0, option, true);
        }
        wire.refuse(1, 1, true);
        wire.refuse(1, 3, true);
        wire.refuse(1, 2, true);
        wire.refuse(1, 2, false);
        wire.open(1, 2);
        wire.open(0, 1);
        wire.lose(0);
        wire.deliver(1);
        Check.same("kind", wire.kindAt(0, 0), OptionWire.REFUSAL);
        wire.deliver(0);
        Check.same("asked", Check.asked(wire, 0), "10 -1 12 -1");
    }

    private static void refuseOutOfRangeThrows() {
        OptionWire wire = new OptionWire();
        for (int end : NO_ENDS) {
            Check.illegalArgument("refuse(" + end + ", 0, true)", wire,
                    () -> wire.refuse(end, 0, true));
        }
        for (int option : NO_OPTIONS) {
            Check.illegalArgument("refuse(1, " + option + ", true)", wire,
                    () -> wire.refuse(1, option, true));
        }
        for (int option = 0; option <= 3; option++) {
            Check.same("refused before", wire.refuse(0, option, true), false);
            Check.same("refused before", wire.refuse(1, option, true), false);
        }
        wire.open(0, 1);
        Check.illegalState("refuse(0, 0, false)", wire, () -> wire.refuse(0, 0, false));
        wire.close(0);
        Check.ticks(wire, 6);
        Check.same("refused before", wire.refuse(0, 0, true), true);
    }

    private static void wantsAreSetOfShutEndsOnly() {
        for (int state = OptionWire.CLOSED; state <= OptionWire.LOOPED; state++) {
            for (int end = 0; end <= 1; end++) {
                wantsOfAnEndIn(end, state);
            }
        }
    }

    private static void wantsOfAnEndIn(int end, int state) {
        OptionWire wire = States.wireWithEndIn(end, state);
        boolean isShut = state == OptionWire.CLOSED || state == OptionWire.FAILED
                || state == OptionWire.LOOPED;
        if (isShut) {
            Check.same("wish in state " + state, wire.wish(end, 3, 8, 0, 100), -1);
            Check.same("wish again in state " + state, wire.wish(end, 3, 9, 0, 100), 8);
            wire.allow(end, 3, 8, 9);
            Check.same("refuse in state " + state, wire.refuse(end, 3, true), false);
            Check.same("refuse again in state " + state, wire.refuse(end, 3, true), true);
        } else {
            Check.illegalState("wish in state " + state, wire,
                    () -> wire.wish(end, 3, 8, 0, 100));
            Check.illegalState("allow in state " + state, wire, () -> wire.allow(end, 3, 8, 9));
            Check.illegalState("refuse in state " + state, wire,
                    () -> wire.refuse(end, 3, true));
        }
    }

    private static void argumentsAreLookedAtBeforeTheState() {
        OptionWire wire = new OptionWire();
        wire.open(0, 1);
        Check.illegalArgument("wish(0, 4, ..)", wire, () -> wire.wish(0, 4, 1, 0, 2));
        Check.illegalArgument("wish(0, 0, 3, 0, 2)", wire, () -> wire.wish(0, 0, 3, 0, 2));
        Check.illegalArgument("wish(0, 0, 1, 0, 101)", wire, () -> wire.wish(0, 0, 1, 0, 101));
        Check.illegalArgument("allow(0, -1, 0, 2)", wire, () -> wire.allow(0, -1, 0, 2));
        Check.illegalArgument("allow(0, 0, 3, 2)", wire, () -> wire.allow(0, 0, 3, 2));
        Check.illegalArgument("refuse(0, 4, true)", wire, () -> wire.refuse(0, 4, true));
    }

    private static void loopReturnsWhatWasBefore() {
        OptionWire wire = new OptionWire();
        Check.same("loop(true), first", wire.loop(true), false);
        Check.same("loop(true), second", wire.loop(true), true);
        Check.same("loop(false), first", wire.loop(false), true);
        Check.same("loop(false), second", wire.loop(false), false);
    }

    private static void loopIsForPacketsSentFromNowOn() {
        OptionWire wire = new OptionWire();
        wire.open(0, 1);
        wire.loop(true);
        Check.same("sent before loop(true)", Check.kinds(wire, 1), "[0]");
        Check.same("sent before loop(true)", Check.kinds(wire, 0), "[]");
        wire.open(1, 2);
        wire.close(0);
        Check.same("sent to itself by 0", Check.kinds(wire, 0), "[4]");
        Check.same("sent to itself by 1", Check.kinds(wire, 1), "[0 0]");
        wire.loop(false);
        Check.same("sent before loop(false)", Check.kinds(wire, 0), "[4]");
        wire.deliver(0);
        Check.same("sent behind loop(false)", Check.kinds(wire, 1), "[0 0 5]");
    }
}
