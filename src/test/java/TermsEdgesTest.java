/** "Terms" for the promises 6, 8 and 10, edge by edge; each stands for the sentence above it. */
public final class TermsEdgesTest {
    private static final int NONE = OptionWire.NONE;

    public static void main(String[] args) {
        noWishesAtFirst();
        limitsAtFirst();
        boundsAtFirst();
        nothingRefusedAtFirst();
        numberIsZeroAtFirst();
        numberStaysWhenNoTriesAreLeft();
        valuesAtTheBounds();
        boundsOfOneValue();
        requestWithoutValues();
        counterWithAllOptions();
        refusalWithAllOptions();
        refusedAndOutOfBounds();
        byeInStatesThatAreUp();
        byeInStatesThatAreShut();
        byeInClosing();
        byeByeInClosing();
        byeByeInOtherStates();
        requestInShutOrClosing();
        answersInShutOrClosing();
        yesToTheLatestRequest();
        yesToTheRequestBefore();
        yesWithAGreaterNumber();
        yesInHeardAndOpened();
        counterAtTheLimits();
        counterOfSomeOptions();
        counterToTheRequestBefore();
        counterWithTheLastTry();
        counterWithoutTries();
        counterInHeardAndOpened();
        refusalToTheRequestBefore();
        refusalWithTheLastTry();
        refusalWithoutTries();
        refusalInHeardAndOpened();
        secondLoopIsNotTheLast();
        thirdLoopIsTheLast();
        anotherMarkMakesTheNextLoopTheFirst();
        openMakesTheNextLoopTheFirst();
        loopInEveryState();
        requestInOpenedGivesTenTries();
        openedByYesHasTenTries();
        openedByRequestHasTenTries();
        badRequestInTold();
        badRequestInHeard();
        badRequestInOpened();
        Check.finish();
    }

    /** The end 0 wishes this value for option 0, of which the end 1 allows least to most. */
    private static OptionWire judged(int value, int least, int most) {
        OptionWire wire = new OptionWire();
        wire.wish(0, 0, value, 0, 100);
        wire.allow(1, 0, least, most);
        Check.play(wire, "o1:2 x0 o0:1 d1");
        return wire;
    }

    /** As judged(50, 0, 100), but the end 1 answers requests for option 0 by this kind. */
    private static OptionWire answering(int kind) {
        OptionWire wire = new OptionWire();
        wire.wish(0, 0, 50, 0, 100);
        wire.allow(1, 0, kind == OptionWire.COUNTER ? 60 : 0, 100);
        wire.refuse(1, 0, kind == OptionWire.REFUSAL);
        return wire;
    }

    private static void checkEnd(String what, OptionWire wire, int end, int state, int tries) {
        Check.same("state, " + what, wire.state(end), state);
        Check.same("tries, " + what, wire.tries(end), tries);
    }

    // "At first there are no wishes, limits and bounds are 0 and 100, and nothing is refused."
    private static void noWishesAtFirst() {
        OptionWire wire = Check.played("o0:1 o1:2");
        Check.same("asked by the end 0", Check.asked(wire, 0), "-1 -1 -1 -1");
        Check.same("asked by the end 1", Check.asked(wire, 1), "-1 -1 -1 -1");
    }

    /** A counter to an option without a wish is the answer to the other end's own old request. */
    private static void limitsAtFirst() {
        for (int option = 0; option <= 3; option++) {
            for (int value : new int[] {0, 100}) {
                OptionWire wire = new OptionWire();
                wire.wish(1, option, 100 - value, 0, 100);
                wire.allow(1, option, value, value);
                Check.play(wire, "loop o1:2 unloop c1 t6 x0 o1:3 x0 o0:1 d1 d0");
                Check.same("asked behind the counter " + value, wire.asked(0, option), value);
            }
        }
    }

    private static void boundsAtFirst() {
        for (int option = 0; option <= 3; option++) {
            for (int value : new int[] {0, 100}) {
                OptionWire wire = new OptionWire();
                wire.wish(0, option, value, 0, 100);
                Check.play(wire, "o1:2 x0 o0:1 d1");
                Check.same("answer to " + value, Check.kinds(wire, 0), "[1]");
            }
        }
    }

    private static void nothingRefusedAtFirst() {
        OptionWire wire = new OptionWire();
        for (int option = 0; option <= 3; option++) {
            wire.wish(1, option, 50, 0, 100);
        }
        Check.play(wire, "o0:1 x1 o1:2 d0");
        Check.same("answer to all options", Check.kinds(wire, 1), "[1]");
    }

    // "the number of its latest request, 0 at first", "its number grows by 1": the answer to the
    // n-th request of the one end is good for the n-th request of the other one
    private static void numberIsZeroAtFirst() {
        for (int requests = 1; requests <= 3; requests++) {
            OptionWire wire = wireWithAYesTo(3);
            Check.play(wire, "o0:1 t" + 3 * (requests - 1) + " d0");
            Check.same("state behind YES number 3 with " + requests + " requests", wire.state(0),
                    requests == 3 ? OptionWire.HEARD : OptionWire.ASKING);
        }
    }

    /** A YES waits at the end 0, with this number; the end 0 is as on a new object. */
    private static OptionWire wireWithAYesTo(int number) {
        OptionWire wire = Check.played("loop o1:2 t" + 3 * (number - 1) + " unloop c1 t6 x0");
        for (int i = 1; i < number; i++) {
            wire.lose(1);
        }
        Check.play(wire, "o1:3 x0 d1");
        Check.same("the packet at the end 0", Check.kinds(wire, 0), "[1]");
        return wire;
    }

    // "an end that has no tries left is FAILED instead": its number does not grow
    private static void numberStaysWhenNoTriesAreLeft() {
        OptionWire wire = Check.played("o0:1 t30 x1");
        checkEnd("behind ten requests", wire, 0, OptionWire.FAILED, 0);
        for (int number = 1; number <= 10; number++) {
            Check.play(wire, "o1:2 x0 q1");
        }
        Check.play(wire, "loop o1:2 unloop c1 t6 x0 o1:3 x0 d1");
        Check.same("YES number 11 waits", Check.kinds(wire, 0), "[1]");
        Check.play(wire, "o0:1 d0");
        checkEnd("behind the eleventh request", wire, 0, OptionWire.HEARD, 9);
    }

    // "each value is within the bounds of its option", "the nearest value that is"
    private static void valuesAtTheBounds() {
        int[][] rows = { // the value, and the asked one behind the answer
            {0, 40}, {39, 40}, {40, 40}, {41, 41}, {59, 59}, {60, 60}, {61, 60}, {100, 60},
        };
        for (int[] row : rows) {
            OptionWire wire = judged(row[0], 40, 60);
            Check.same("answer to " + row[0], wire.kindAt(0, 0),
                    row[0] == row[1] ? OptionWire.YES : OptionWire.COUNTER);
            wire.deliver(0);
            Check.same("asked behind the answer to " + row[0], wire.asked(0, 0), row[1]);
        }
    }

    private static void boundsOfOneValue() {
        for (int bound : new int[] {0, 1, 50, 99, 100}) {
            for (int value : new int[] {0, 1, 49, 50, 51, 99, 100}) {
                OptionWire wire = judged(value, bound, bound);
                Check.same("answer to " + value + ", allowed is " + bound, wire.kindAt(0, 0),
                        value == bound ? OptionWire.YES : OptionWire.COUNTER);
                wire.deliver(0);
                Check.same("asked for " + value + ", allowed is " + bound, wire.asked(0, 0),
                        bound);
            }
        }
    }

    // "A request is good for an end if none of its options is refused": it has none
    private static void requestWithoutValues() {
        OptionWire wire = new OptionWire();
        for (int option = 0; option <= 3; option++) {
            wire.refuse(1, option, true);
            wire.allow(1, option, 50, 50);
        }
        Check.play(wire, "o1:2 x0 o0:1 d1");
        Check.same("answer", Check.kinds(wire, 0), "[1]");
    }

    // "Otherwise it sends COUNTER, with [..] those options whose values are not within the bounds"
    private static void counterWithAllOptions() {
        OptionWire wire = new OptionWire();
        for (int option = 0; option <= 3; option++) {
            wire.wish(0, option, option % 2 == 0 ? 0 : 100, 0, 100);
            wire.allow(1, option, 10 + option, 20 + option);
        }
        Check.play(wire, "o1:2 x0 o0:1 d1");
        Check.same("answer", Check.kinds(wire, 0), "[2]");
        Check.play(wire, "d0");
        Check.same("asked", Check.asked(wire, 0), "10 21 12 23");
    }

    // "it sends REFUSAL, with [..] those options of the request that it refuses"
    private static void refusalWithAllOptions() {
        OptionWire wire = new OptionWire();
        for (int option = 0; option <= 3; option++) {
            wire.wish(0, option, 33 * option, 0, 100);
            wire.refuse(1, option, true);
        }
        Check.play(wire, "o1:2 x0 o0:1 d1");
        Check.same("answer", Check.kinds(wire, 0), "[3]");
        Check.play(wire, "d0");
        Check.same("asked", Check.asked(wire, 0), "-1 -1 -1 -1");
        Check.play(wire, "d1");
        Check.same("answer to the request without values", Check.kinds(wire, 0), "[1]");
    }

    // "If an option is refused, it sends REFUSAL [..] Otherwise it sends COUNTER"
    private static void refusedAndOutOfBounds() {
        OptionWire wire = new OptionWire();
        wire.wish(0, 0, 5, 0, 100);
        wire.wish(0, 3, 5, 0, 100);
        wire.allow(1, 0, 60, 70);
        wire.allow(1, 3, 60, 70);
        wire.refuse(1, 3, true);
        Check.play(wire, "o1:2 x0 o0:1 d1");
        Check.same("answer", Check.kinds(wire, 0), "[3]");
        Check.play(wire, "d0");
        Check.same("asked", Check.asked(wire, 0), "5 -1 -1 -1");
    }

    /** A BYE waits at the end, which is in this state; nothing else waits. */
    private static OptionWire wireWithABye(int end, int state) {
        OptionWire wire = States.wireWithEndIn(end, state);
        int other = 1 - end;
        if (wire.state(other) == OptionWire.CLOSED) {
            wire.open(other, 2);
        }
        Check.play(wire, "x0 x1 c" + other);
        return wire;
    }

    // "BYE: the end sends BYE_BYE; if it is neither shut nor CLOSING, it is CLOSED then."
    private static void byeInStatesThatAreUp() {
        for (int state : States.UP) {
            byeLeadsTo(state, OptionWire.CLOSED);
        }
    }

    private static void byeInStatesThatAreShut() {
        for (int state : States.SHUT) {
            byeLeadsTo(state, state);
        }
    }

    private static void byeInClosing() {
        byeLeadsTo(OptionWire.CLOSING, OptionWire.CLOSING);
        OptionWire wire = Check.played("o0:1 o1:2 x0 x1 c0 c1 d0 d1");
        Check.same("each has the other one's answer", Check.kinds(wire, 0) + Check.kinds(wire, 1),
                "[5][5]");
        Check.play(wire, "d0 d1");
        Check.same("both states", wire.state(0) + wire.state(1), 2 * OptionWire.CLOSED);
    }

    private static void byeLeadsTo(int before, int due) {
        for (int end = 0; end <= 1; end++) {
            OptionWire wire = wireWithABye(end, before);
            Check.same("deliver", wire.deliver(end), OptionWire.BYE);
            Check.same("state behind BYE in state " + before, wire.state(end), due);
            Check.same("answer in state " + before, Check.kinds(wire, 1 - end), "[5]");
        }
    }

    // "BYE_BYE: an end that is CLOSING is CLOSED; others do nothing."
    private static void byeByeInClosing() {
        for (int ticks = 0; ticks <= 5; ticks++) {
            OptionWire wire = Check.played("o0:1 x1 c0 d1 t" + ticks);
            Check.same("state", wire.state(0), OptionWire.CLOSING);
            Check.same("deliver", wire.deliver(0), OptionWire.BYE_BYE);
            Check.same("state behind BYE_BYE", wire.state(0), OptionWire.CLOSED);
            Check.same("sent by ticks behind BYE_BYE", wire.tick() + wire.tick(), 0);
        }
    }

    /** The other end's BYE comes back to it; its answer, no more on a looped wire, to the end. */
    private static void byeByeInOtherStates() {
        for (int state : States.ALL) {
            OptionWire wire = States.wireWithEndIn(0, state);
            if (wire.state(1) == OptionWire.CLOSED) {
                wire.open(1, 2);
            }
            Check.play(wire, "x0 x1 loop c1 unloop d1");
            String before = Check.standing(wire);
            Check.same("deliver in state " + state, wire.deliver(0), OptionWire.BYE_BYE);
            if (state != OptionWire.CLOSING) {
                Check.same("standing behind BYE_BYE in state " + state, Check.standing(wire),
                        before.replace("[5]", "[]"));
            }
        }
    }

    // "An end that is shut or CLOSING does nothing at all others."
    private static void requestInShutOrClosing() {
        for (int state : States.SHUT_OR_CLOSING) {
            for (int mark = 1; mark <= 2; mark++) {
                OptionWire wire = States.wireWithEndIn(0, state);
                Check.play(wire, "x0 x1 o1:" + mark);
                String before = Check.standing(wire);
                wire.deliver(0);
                Check.same("standing behind a request in state " + state, Check.standing(wire),
                        before.replace("[0]", "[]"));
            }
        }
    }

    private static void answersInShutOrClosing() {
        for (int kind = OptionWire.YES; kind <= OptionWire.REFUSAL; kind++) {
            for (int state : States.SHUT_OR_CLOSING) {
                OptionWire wire = wireWithAnAnswerIn(state, kind);
                Check.same("state that was to be reached", wire.state(0), state);
                answerChangesNothing(wire, kind);
            }
        }
    }

    /** The answer waits at the end 0 and is that to its latest request. */
    private static OptionWire wireWithAnAnswerIn(int state, int kind) {
        if (state == OptionWire.FAILED) {
            OptionWire failed = wireWithTriesLeft(kind, 0);
            Check.play(failed, "t3");
            return failed;
        }
        OptionWire wire = answering(kind);
        if (state == OptionWire.LOOPED) {
            Check.play(wire, "loop o0:1 t6 unloop t2 o1:2 t1 d1 d0 d0 d0");
        } else {
            Check.play(wire, "o1:2 x0 o0:1 d1 c0");
            Check.ticks(wire, state == OptionWire.CLOSED ? 6 : 0);
        }
        return wire;
    }

    /** The packets ahead of the first answer of this kind at the end 0 are lost first. */
    private static void answerChangesNothing(OptionWire wire, int kind) {
        for (int i = 0; i < 12 && wire.kindAt(0, 0) != kind; i++) {
            wire.lose(0);
        }
        String due = Check.standing(wire).replaceFirst("waiting \\[" + kind + " ?", "waiting [");
        Check.same("deliver", wire.deliver(0), kind);
        Check.same("standing behind answer " + kind + " in state " + wire.state(0),
                Check.standing(wire), due);
    }

    // "YES, with the number of the latest request of the end"
    private static void yesToTheLatestRequest() {
        OptionWire asking = Check.played("o1:2 x0 o0:1 t3 x0 d1 d1 l0 d0");
        checkEnd("YES in ASKING", asking, 0, OptionWire.HEARD, 8);
        OptionWire told = Check.played("o1:2 o0:1 d0 t3 x0 d1 l1 d1 l0 d0");
        checkEnd("YES in TOLD", told, 0, OptionWire.OPENED, 10);
    }

    private static void yesToTheRequestBefore() {
        OptionWire asking = Check.played("o1:2 x0 o0:1 d1 t3 d0");
        checkEnd("old YES in ASKING", asking, 0, OptionWire.ASKING, 8);
        OptionWire told = Check.played("o1:2 o0:1 d0 d1 t3 d0");
        checkEnd("old YES in TOLD", told, 0, OptionWire.TOLD, 8);
    }

    private static void yesWithAGreaterNumber() {
        OptionWire wire = wireWithAYesTo(2);
        Check.play(wire, "o0:1 d0");
        checkEnd("YES number 2 with one request", wire, 0, OptionWire.ASKING, 9);
        OptionWire latest = wireWithAYesTo(2);
        Check.play(latest, "o0:1 t3 d0");
        checkEnd("YES number 2 with two requests", latest, 0, OptionWire.HEARD, 8);
    }

    /**
     * At the end 0 a request, a YES and an answer of this kind wait, the last two with the number
     * of its latest request.
     */
    private static OptionWire wireWithTwoAnswers(int kind) {
        OptionWire wire = answering(kind);
        Check.play(wire, "loop o1:2 unloop c1 t6 x0 o1:3 o0:1 d1 d1");
        Check.same("packets at the end 0", Check.kinds(wire, 0), "[0 1 " + kind + "]");
        return wire;
    }

    private static void secondAnswerChangesNothing(int kind) {
        OptionWire heard = wireWithTwoAnswers(kind);
        Check.play(heard, "l0 d0");
        checkEnd("before the second answer", heard, 0, OptionWire.HEARD, 9);
        answerChangesNothing(heard, kind);
        OptionWire opened = wireWithTwoAnswers(kind);
        Check.play(opened, "d0 d0");
        checkEnd("before the second answer", opened, 0, OptionWire.OPENED, 10);
        answerChangesNothing(opened, kind);
    }

    // "if it is ASKING, it is HEARD; if it is TOLD, it is OPENED. Otherwise nothing."
    private static void yesInHeardAndOpened() {
        secondAnswerChangesNothing(OptionWire.YES);
    }

    // "each value that it has becomes the asked value, if it is within the limits of the option; if
    // not, none is asked any more"
    private static void counterAtTheLimits() {
        int[][] rows = { // least and most that it asks for, the counter, asked then
            {40, 60, 39, NONE}, {40, 60, 40, 40}, {40, 60, 41, 41}, {40, 60, 59, 59},
            {40, 60, 60, 60}, {40, 60, 61, NONE}, {40, 60, 0, NONE}, {40, 60, 100, NONE},
            {50, 50, 49, NONE}, {50, 50, 51, NONE}, {0, 100, 0, 0}, {0, 100, 100, 100},
        };
        for (int[] row : rows) {
            for (int option = 0; option <= 3; option++) {
                OptionWire wire = new OptionWire();
                wire.wish(0, option, 50, row[0], row[1]);
                wire.allow(1, option, row[2], row[2]);
                Check.play(wire, "o1:2 x0 o0:1 d1 d0");
                String what = "the counter " + row[2] + " in " + row[0] + " to " + row[1];
                Check.same("asked behind " + what, wire.asked(0, option), row[3]);
                checkEnd("behind " + what, wire, 0, OptionWire.ASKING, 8);
            }
        }
    }

    private static void counterOfSomeOptions() {
        OptionWire wire = new OptionWire();
        wire.wish(0, 0, 50, 40, 60);
        wire.wish(0, 1, 50, 40, 60);
        wire.wish(0, 2, 50, 40, 60);
        wire.allow(1, 0, 60, 100);
        wire.allow(1, 1, 61, 100);
        Check.play(wire, "o1:2 x0 o0:1 d1 d0");
        Check.same("asked", Check.asked(wire, 0), "60 -1 50 -1");
    }

    /** The answer is that to the request before the latest one. */
    private static void oldAnswerChangesNothing(int kind) {
        OptionWire asking = answering(kind);
        Check.play(asking, "o1:2 x0 o0:1 d1 t3");
        checkEnd("before the old answer", asking, 0, OptionWire.ASKING, 8);
        answerChangesNothing(asking, kind);
        OptionWire told = answering(kind);
        Check.play(told, "o1:2 o0:1 d0 d1 t3");
        checkEnd("before the old answer", told, 0, OptionWire.TOLD, 8);
        answerChangesNothing(told, kind);
    }

    // "COUNTER, with this number"
    private static void counterToTheRequestBefore() {
        oldAnswerChangesNothing(OptionWire.COUNTER);
    }

    /** The end 0 has used all its tries but these, and an answer to its latest request waits. */
    private static OptionWire wireWithTriesLeft(int kind, int tries) {
        OptionWire wire = answering(kind);
        Check.play(wire, "o0:1 t" + 3 * (9 - tries));
        for (int i = wire.waiting(1); i > 1; i--) {
            wire.lose(1);
        }
        Check.play(wire, "o1:2 x0 d1");
        checkEnd("before the answer", wire, 0, OptionWire.ASKING, tries);
        return wire;
    }

    // "Then a request is sent (if there are no tries, the asked values have changed all the same)."
    private static void counterWithTheLastTry() {
        OptionWire wire = wireWithTriesLeft(OptionWire.COUNTER, 1);
        Check.play(wire, "d0");
        checkEnd("COUNTER with the last try", wire, 0, OptionWire.ASKING, 0);
        Check.same("asked", wire.asked(0, 0), 60);
        Check.same("sent", Check.kinds(wire, 1), "[0]");
    }

    private static void counterWithoutTries() {
        OptionWire wire = wireWithTriesLeft(OptionWire.COUNTER, 0);
        Check.play(wire, "d0");
        checkEnd("COUNTER without tries", wire, 0, OptionWire.FAILED, 0);
        Check.same("asked", wire.asked(0, 0), 60);
        Check.same("sent", Check.kinds(wire, 1), "[]");
    }

    // "in ASKING or TOLD [..] Otherwise nothing."
    private static void counterInHeardAndOpened() {
        secondAnswerChangesNothing(OptionWire.COUNTER);
    }

    // "REFUSAL, likewise: of its options none is asked any more."
    private static void refusalToTheRequestBefore() {
        oldAnswerChangesNothing(OptionWire.REFUSAL);
    }

    private static void refusalWithTheLastTry() {
        OptionWire wire = wireWithTriesLeft(OptionWire.REFUSAL, 1);
        Check.play(wire, "d0");
        checkEnd("REFUSAL with the last try", wire, 0, OptionWire.ASKING, 0);
        Check.same("asked", wire.asked(0, 0), NONE);
        Check.same("sent", Check.kinds(wire, 1), "[0]");
    }

    private static void refusalWithoutTries() {
        OptionWire wire = wireWithTriesLeft(OptionWire.REFUSAL, 0);
        Check.play(wire, "d0");
        checkEnd("REFUSAL without tries", wire, 0, OptionWire.FAILED, 0);
        Check.same("asked", wire.asked(0, 0), NONE);
        Check.same("sent", Check.kinds(wire, 1), "[]");
    }

    private static void refusalInHeardAndOpened() {
        secondAnswerChangesNothing(OptionWire.REFUSAL);
    }

    // "with the third loop one behind the other since open() of the end it is LOOPED; nothing else
    // is done"
    private static void secondLoopIsNotTheLast() {
        OptionWire wire = Check.played("loop o0:1 t6 d0 d0");
        checkEnd("behind two loops", wire, 0, OptionWire.ASKING, 7);
        Check.same("nothing is sent", Check.kinds(wire, 0), "[0]");
    }

    private static void thirdLoopIsTheLast() {
        for (int mark : new int[] {1, 999}) {
            OptionWire wire = Check.played("loop o0:" + mark + " t9 d0 d0 d0");
            checkEnd("behind three loops", wire, 0, OptionWire.LOOPED, 6);
            Check.same("nothing is sent", Check.kinds(wire, 0), "[0]");
            Check.play(wire, "d0 t3");
            checkEnd("behind four loops", wire, 0, OptionWire.LOOPED, 6);
        }
    }

    // "If its mark is another one, the next loop is the first one again."
    private static void anotherMarkMakesTheNextLoopTheFirst() {
        for (int kind = OptionWire.YES; kind <= OptionWire.REFUSAL; kind++) {
            OptionWire wire = answering(kind);
            Check.play(wire, "o1:1 x0 o0:1 d1 q0 o0:1 d1");
            Check.same("state behind two loops", wire.state(1), OptionWire.ASKING);
            Check.play(wire, "q0 o0:2 d1");
            Check.same("the other mark is answered", Check.kinds(wire, 0), "[" + kind + "]");
            int state = wire.state(1);
            Check.play(wire, "x0 q0 o0:1 d1 q0 o0:1 d1");
            Check.same("state behind another mark and two loops", wire.state(1), state);
            Check.play(wire, "q0 o0:1 d1");
            Check.same("state behind three loops", wire.state(1), OptionWire.LOOPED);
        }
    }

    private static void openMakesTheNextLoopTheFirst() {
        OptionWire wire = Check.played("loop o0:1 t3 d0 d0 q0 loop o0:1 t6 d0 d0");
        Check.same("state behind two loops since open()", wire.state(0), OptionWire.ASKING);
        Check.play(wire, "d0");
        Check.same("state behind three loops since open()", wire.state(0), OptionWire.LOOPED);
    }

    private static void loopInEveryState() {
        for (int state : States.UP) {
            OptionWire wire = States.wireWithEndIn(0, state);
            Check.play(wire, "x0 x1");
            if (wire.state(1) != OptionWire.CLOSED) {
                Check.play(wire, "q1");
            }
            Check.play(wire, "o1:1");
            String before = Check.standing(wire);
            wire.deliver(0);
            Check.same("standing behind a loop in state " + state, Check.standing(wire),
                    before.replace("[0]", "[]"));
            Check.play(wire, "q1 o1:1 d0");
            Check.same("state behind two loops", wire.state(0), state);
            Check.play(wire, "q1 o1:1 d0");
            Check.same("state behind three loops", wire.state(0), OptionWire.LOOPED);
        }
    }

    // "If the end is OPENED, it is ASKING and has 10 tries from here on, and sends a request."
    private static void requestInOpenedGivesTenTries() {
        OptionWire wire = States.wireWithEndIn(1, OptionWire.OPENED);
        Check.play(wire, "q0 o0:3 d1");
        checkEnd("behind a good request", wire, 1, OptionWire.TOLD, 9);
        Check.same("its request goes before its answer", Check.kinds(wire, 0), "[0 1]");
    }

    // "Whenever an end becomes OPENED, it has 10 tries."
    private static void openedByYesHasTenTries() {
        OptionWire wire = Check.played("o0:1 t27 l1 l1 l1 l1 l1 l1 l1 l1 l1 o1:2 d0 d1");
        checkEnd("before the YES", wire, 0, OptionWire.TOLD, 0);
        Check.play(wire, "d0");
        checkEnd("behind the YES", wire, 0, OptionWire.OPENED, 10);
    }

    private static void openedByRequestHasTenTries() {
        OptionWire wire = wireWithTriesLeft(OptionWire.YES, 0);
        Check.play(wire, "d0");
        checkEnd("behind the YES", wire, 0, OptionWire.HEARD, 0);
        Check.play(wire, "q1 o1:3 d0");
        checkEnd("behind the request", wire, 0, OptionWire.OPENED, 10);
    }

    // "if not, one that is TOLD is ASKING"
    private static void badRequestInTold() {
        OptionWire wire = new OptionWire();
        wire.allow(1, 0, 0, 10);
        Check.play(wire, "o1:2 o0:1 d1 x0 q0");
        checkEnd("before the request", wire, 1, OptionWire.TOLD, 9);
        wire.wish(0, 0, 11, 0, 100);
        Check.play(wire, "o0:1 d1");
        checkEnd("behind the request", wire, 1, OptionWire.ASKING, 9);
        Check.same("answer", Check.kinds(wire, 0), "[2]");
    }

    private static void badRequestInHeard() {
        OptionWire wire = new OptionWire();
        wire.wish(0, 0, 11, 0, 100);
        wire.allow(1, 0, 0, 10);
        Check.play(wire, "o1:2 o0:1 l1 d0 d1");
        checkEnd("before the request", wire, 1, OptionWire.HEARD, 9);
        Check.play(wire, "q0 o0:1 d1");
        checkEnd("behind the request", wire, 1, OptionWire.HEARD, 9);
        Check.same("answer", Check.kinds(wire, 0), "[2]");
    }

    private static void badRequestInOpened() {
        OptionWire wire = new OptionWire();
        wire.refuse(1, 0, true);
        Check.openBoth(wire);
        Check.play(wire, "q0");
        wire.wish(0, 0, 11, 0, 100);
        Check.play(wire, "o0:1 d1");
        checkEnd("behind the request", wire, 1, OptionWire.ASKING, 9);
        Check.same("its request goes before its answer", Check.kinds(wire, 0), "[0 3]");
    }
}
