/** Promises 1 to 5: a new object, wish, allow, refuse, loop. */
public final class WantsTest {
    public static void main(String[] args) {
        objectsAreApart();
        newObjectHasWidestBounds();
        newObjectHasWidestLimits();
        newObjectRefusesNothingAndIsNotLooped();
        wishReturnsTheWishBefore();
        wishIsAskedFromTheNextOpenOn();
        limitsHoldForCounters();
        wishThatThrowsChangesNothing();
        boundsHoldForRequests();
        allowThatThrowsChangesNothing();
        refusedOptionsAreRefused();
        loopIsForPacketsSentFromNowOn();
        Check.finish();
    }

    private static void objectsAreApart() {
        OptionWire used = new OptionWire();
        OptionWire other = new OptionWire();
        String before = Check.standing(other);
        used.wish(0, 0, 5, 0, 100);
        used.refuse(1, 0, true);
        used.loop(true);
        used.open(0, 3);
        used.tick();
        Check.same("another object", Check.standing(other), before);
        Check.same("wish of another object", other.wish(0, 0, 1, 0, 100), -1);
        Check.same("refusal of another object", other.refuse(1, 0, true), false);
        Check.same("loop of another object", other.loop(true), false);
    }

    private static void newObjectHasWidestBounds() {
        for (int option = 0; option <= 3; option++) {
            for (int value = 0; value <= 100; value += 100) {
                OptionWire wire = new OptionWire();
                wire.wish(0, option, value, value, value);
                Check.openBoth(wire);
                Check.same("granted in widest bounds", wire.granted(0, option), value);
                Check.same("allowed in widest bounds", wire.allowed(1, option), value);
            }
        }
    }

    private static void newObjectHasWidestLimits() {
        for (int option = 0; option <= 3; option++) {
            for (int value = 0; value <= 100; value += 100) {
                OptionWire wire = new OptionWire();
                counterAnEndWithoutWishes(wire, option, value);
                Check.same("asked within widest limits", wire.asked(1, option), value);
            }
        }
    }

    /**
     * The end 0 judges an old request of its own that the looped wire brought back, and its COUNTER
     * to the number 1 goes to the end 1, whose own latest request has the number 1, too.
     */
    private static void counterAnEndWithoutWishes(OptionWire wire, int option, int value) {
        wire.wish(0, option, 100 - value, 0, 100);
        wire.allow(0, option, value, value);
        wire.loop(true);
        wire.open(0, 1);
        wire.loop(false);
        wire.close(0);
        Check.ticks(wire, 6);
        wire.open(0, 2);
        Check.deliverAll(wire, 1);
        wire.open(1, 3);
        wire.deliver(0);
        Check.same("packets to an end without wishes", Check.kinds(wire, 1), "[2]");
        wire.deliver(1);
    }

    private static void newObjectRefusesNothingAndIsNotLooped() {
        OptionWire wire = new OptionWire();
        for (int end = 0; end <= 1; end++) {
            for (int option = 0; option <= 3; option++) {
                Check.same("refuse of a new object", wire.refuse(end, option, false), false);
            }
        }
        wire.open(0, 1);
        Check.same("waiting(0), not looped", wire.waiting(0), 0);
        Check.same("waiting(1), not looped", wire.waiting(1), 1);
        Check.same("loop(false) of a new object", wire.loop(false), false);
    }

    private static void wishReturnsTheWishBefore() {
        OptionWire wire = new OptionWire();
        for (int end = 0; end <= 1; end++) {
            for (int option = 0; option <= 3; option++) {
                int value = 10 * end + option;
                Check.same("first wish", wire.wish(end, option, value, 0, 100), -1);
            }
        }
        for (int end = 0; end <= 1; end++) {
            for (int option = 0; option <= 3; option++) {
                int value = 10 * end + option;
                Check.same("wish NONE", wire.wish(end, option, -1, 0, 100), value);
                Check.same("wish behind NONE", wire.wish(end, option, 100, 100, 100), -1);
                Check.same("wish 0", wire.wish(end, option, 0, 0, 0), 100);
                Check.same("wish at the least", wire.wish(end, option, 20, 20, 30), 0);
                Check.same("wish at the most", wire.wish(end, option, 30, 20, 30), 20);
                Check.same("last wish", wire.wish(end, option, -1, 0, 0), 30);
            }
        }
        Check.same("asked before open()", Check.asked(wire, 0), "-1 -1 -1 -1");
    }

    private static void wishIsAskedFromTheNextOpenOn() {
        OptionWire wire = new OptionWire();
        wire.wish(0, 0, 0, 0, 100);
        wire.wish(0, 2, 100, 0, 100);
        wire.wish(1, 3, 7, 0, 100);
        wire.open(0, 1);
        wire.open(1, 2);
        Check.same("asked(0)", Check.asked(wire, 0), "0 -1 100 -1");
        Check.same("asked(1)", Check.asked(wire, 1), "-1 -1 -1 7");
        wire.close(0);
        Check.ticks(wire, 6);
        wire.wish(0, 0, -1, 0, 100);
        wire.wish(0, 1, 4, 0, 100);
        Check.same("asked(0) when shut", Check.asked(wire, 0), "0 -1 100 -1");
        wire.open(0, 1);
        Check.same("asked(0) when open again", Check.asked(wire, 0), "-1 4 100 -1");
    }

    private static void limitsHoldForCounters() {
        int[][] rows = { // least and most that it asks for, the counter, asked then
            {40, 60, 39, -1}, {40, 60, 40, 40}, {40, 60, 60, 60}, {40, 60, 61, -1},
            {0, 100, 0, 0}, {0, 100, 100, 100}, {50, 50, 51, -1}, {50, 50, 49, -1},
        };
        for (int[] row : rows) {
            for (int option = 0; option <= 3; option++) {
                OptionWire wire = new OptionWire();
                wire.wish(0, option, 50, row[0], row[1]);
                wire.allow(1, option, row[2], row[2]);
                wire.open(0, 1);
                wire.open(1, 2);
                wire.lose(0);
                wire.deliver(1);
                Check.same("kind", wire.kindAt(0, 0), OptionWire.COUNTER);
                wire.deliver(0);
                Check.same("asked behind the counter " + row[2] + " in " + row[0] + " to "
                        + row[1], wire.asked(0, option), row[3]);
            }
        }
    }

    private static void wishThatThrowsChangesNothing() {
        OptionWire wire = new OptionWire();
        wire.wish(0, 1, 50, 45, 55);
        wire.allow(1, 1, 0, 40);
        Check.throwsOnly("most below wish", wire, w -> w.wish(0, 1, 61, 40, 60));
        Check.throwsOnly("least above wish", wire, w -> w.wish(0, 1, 30, 40, 60));
        Check.throwsOnly("most above 100", wire, w -> w.wish(0, 1, 50, 40, 101));
        wire.open(0, 1);
        Check.throwsOnly("not shut", wire, w -> w.wish(0, 1, 50, 40, 60));
        Check.same("asked is the wish before", wire.asked(0, 1), 50);
        Check.play(wire, "o1:2 d1 l0 d0");
        Check.same("40 is not within the limits before", wire.asked(0, 1), -1);
        Check.play(wire, "c0 t6");
        Check.same("the wish before", wire.wish(0, 1, 1, 0, 100), 50);
    }

    private static void boundsHoldForRequests() {
        int[][] rows = { // bounds, the value that is asked, the counter or NONE for yes
            {40, 60, 39, 40}, {40, 60, 40, -1}, {40, 60, 60, -1}, {40, 60, 61, 60},
            {0, 0, 1, 0}, {100, 100, 99, 100}, {0, 100, 0, -1}, {0, 100, 100, -1},
        };
        for (int[] row : rows) {
            for (int option = 0; option <= 3; option++) {
                OptionWire wire = new OptionWire();
                wire.wish(0, option, row[2], 0, 100);
                wire.allow(1, option, row[0], row[1]);
                wire.allow(0, option, 7, 7);
                wire.open(1, 2);
                wire.open(0, 1);
                wire.lose(0);
                wire.deliver(1);
                String what = row[2] + " within " + row[0] + " to " + row[1];
                boolean isGood = row[3] == -1;
                Check.same(what, wire.kindAt(0, 0),
                        isGood ? OptionWire.YES : OptionWire.COUNTER);
                wire.deliver(0);
                Check.same("asked, " + what, wire.asked(0, option), isGood ? row[2] : row[3]);
            }
        }
    }

    private static void allowThatThrowsChangesNothing() {
        OptionWire wire = new OptionWire();
        wire.allow(1, 2, 20, 30);
        wire.wish(0, 2, 25, 0, 100);
        Check.throwsOnly("most above 100", wire, w -> w.allow(1, 2, 26, 101));
        Check.throwsOnly("most below least", wire, w -> w.allow(1, 2, 10, 5));
        Check.throwsOnly("least below 0", wire, w -> w.allow(1, 2, -1, 5));
        wire.open(1, 2);
        Check.throwsOnly("not shut", wire, w -> w.allow(1, 2, 0, 5));
        Check.play(wire, "o0:1 d1");
        Check.same("25 is within the bounds before", wire.allowed(1, 2), 25);
    }

    private static void refusedOptionsAreRefused() {
        OptionWire wire = new OptionWire();
        for (int option = 0; option <= 3; option++) {
            wire.wish(0, option, 10 + option, 0, 100);
            wire.refuse(0, option, true);
        }
        wire.refuse(1, 1, true);
        wire.refuse(1, 3, true);
        wire.refuse(1, 2, true);
        wire.refuse(1, 2, false);
        wire.open(1, 2);
        wire.open(0, 1);
        wire.lose(0);
        wire.deliver(1);
        Check.same("kind", wire.kindAt(0, 0), OptionWire.REFUSAL);
        wire.deliver(0);
        Check.same("asked", Check.asked(wire, 0), "10 -1 12 -1");
    }

    private static void loopIsForPacketsSentFromNowOn() {
        OptionWire wire = new OptionWire();
        wire.open(0, 1);
        wire.loop(true);
        Check.same("sent before loop(true)", Check.kinds(wire, 1), "[0]");
        Check.same("sent before loop(true)", Check.kinds(wire, 0), "[]");
        wire.open(1, 2);
        wire.close(0);
        Check.same("sent to itself by 0", Check.kinds(wire, 0), "[4]");
        Check.same("sent to itself by 1", Check.kinds(wire, 1), "[0 0]");
        wire.loop(false);
        Check.same("sent before loop(false)", Check.kinds(wire, 0), "[4]");
        wire.deliver(0);
        Check.same("sent behind loop(false)", Check.kinds(wire, 1), "[0 0 5]");
    }
}
