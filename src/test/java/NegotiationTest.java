/** "Terms" for promise 8: what an end does at a REQUEST, a YES, a COUNTER and a REFUSAL. */
public final class NegotiationTest {
    private static final int GOOD = OptionWire.YES;
    private static final int COUNTERED = OptionWire.COUNTER;
    private static final int REFUSED = OptionWire.REFUSAL;

    public static void main(String[] args) {
        requestWithoutValuesIsGood();
        refusalGoesBeforeCounter();
        counterHasOnlyTheValuesOutside();
        unaskedOptionsAreNotJudged();
        goodRequestMovesAskingAndHeardOn();
        badRequestTakesToldBack();
        badRequestLeavesHeardAndAsking();
        openedEndAsksAgainAtAGoodRequest();
        openedEndAsksAgainAtABadRequest();
        openedEndAsksForWhatItAskedForLast();
        yesMovesAskingAndToldOn();
        answersDoNothingInHeard();
        answersDoNothingInOpened();
        oldAnswersDoNothing();
        counterAndRefusalAskAgainInAsking();
        counterAndRefusalAskAgainInTold();
        counterAndRefusalWithoutTriesFail();
        counterOfAnUnaskedOptionIsTaken();
        answersHaveTheNumberOfTheRequest();
        thirdLoopIsTheEnd();
        loopsAreNotJudged();
        loopsLeaveAnOpenedEndAsItIs();
        anotherMarkStartsTheLoopsAgain();
        otherPacketsDoNotStartTheLoopsAgain();
        Check.finish();
    }

    /** The end 0 asks 50 for option 0, of which the end 1 thinks as told. */
    private static OptionWire wireWhereEndOneFinds(int judgement) {
        OptionWire wire = new OptionWire();
        wire.wish(0, 0, 50, 0, 100);
        wire.wish(1, 3, 5, 0, 100);
        wire.refuse(1, 0, judgement == REFUSED);
        wire.allow(1, 0, judgement == COUNTERED ? 60 : 0, 100);
        return wire;
    }

    private static void checkEnd(String what, OptionWire wire, int end, int state, int tries) {
        Check.same("state, " + what, wire.state(end), state);
        Check.same("tries, " + what, wire.tries(end), tries);
    }

    private static void requestWithoutValuesIsGood() {
        OptionWire wire = new OptionWire();
        for (int option = 0; option <= 3; option++) {
            wire.refuse(1, option, true);
            wire.allow(1, option, 100, 100);
        }
        Check.play(wire, "o1:2 o0:1 l0 d1");
        Check.same("answer", Check.kinds(wire, 0), "[1]");
        Check.same("state(1)", wire.state(1), OptionWire.TOLD);
    }

    private static void refusalGoesBeforeCounter() {
        OptionWire wire = new OptionWire();
        for (int option = 0; option <= 3; option++) {
            wire.wish(0, option, 10 + 10 * option, 0, 100);
        }
        wire.allow(1, 0, 50, 60);
        wire.allow(1, 1, 50, 60);
        wire.refuse(1, 1, true);
        wire.refuse(1, 2, true);
        Check.play(wire, "o1:2 o0:1 l0 d1");
        Check.same("the first answer", Check.kinds(wire, 0), "[3]");
        Check.play(wire, "d0");
        Check.same("asked behind the refusal", Check.asked(wire, 0), "10 -1 -1 40");
        Check.play(wire, "d1");
        Check.same("the second answer", Check.kinds(wire, 0), "[2]");
        Check.play(wire, "d0");
        Check.same("asked behind the counter", Check.asked(wire, 0), "50 -1 -1 40");
        Check.play(wire, "d1");
        Check.same("the third answer", Check.kinds(wire, 0), "[1]");
        Check.play(wire, "d0");
        Check.same("line", Check.line(wire, 0), "heard a50 d40");
    }

    private static void counterHasOnlyTheValuesOutside() {
        OptionWire wire = new OptionWire();
        int[] wishes = {10, 50, 90, 50};
        for (int option = 0; option <= 3; option++) {
            wire.wish(0, option, wishes[option], 0, option < 2 ? wishes[option] : 100);
            wire.allow(1, option, 40, 60);
        }
        Check.play(wire, "o1:2 o0:1 l0 d1 d0");
        Check.same("asked behind the counter", Check.asked(wire, 0), "-1 50 60 50");
    }

    private static void unaskedOptionsAreNotJudged() {
        OptionWire wire = new OptionWire();
        wire.wish(0, 1, 5, 0, 100);
        wire.refuse(1, 0, true);
        wire.allow(1, 2, 50, 60);
        wire.allow(1, 3, 0, 0);
        Check.play(wire, "o1:2 o0:1 d1");
        Check.same("state(1)", wire.state(1), OptionWire.TOLD);
        Check.same("allowed(1, 1)", wire.allowed(1, 1), 5);
        Check.same("allowed(1, 2)", wire.allowed(1, 2), -1);
    }

    private static void goodRequestMovesAskingAndHeardOn() {
        OptionWire wire = wireWhereEndOneFinds(GOOD);
        Check.play(wire, "o0:1 t1 o1:2 d1");
        checkEnd("good request in ASKING", wire, 1, OptionWire.TOLD, 9);
        Check.play(wire, "t2 d1");
        checkEnd("good request in TOLD", wire, 1, OptionWire.TOLD, 9);
        Check.same("answers", Check.kinds(wire, 0), "[0 1 1]");
        wire = wireWhereEndOneFinds(GOOD);
        Check.play(wire, "o0:1 t1 o1:2 l1 d0 d1");
        checkEnd("before the request", wire, 1, OptionWire.HEARD, 9);
        Check.play(wire, "t2 d1");
        checkEnd("good request in HEARD", wire, 1, OptionWire.OPENED, 10);
        Check.same("answers", Check.kinds(wire, 0), "[1]");
    }

    private static void badRequestTakesToldBack() {
        OptionWire wire = new OptionWire();
        wire.allow(1, 0, 0, 10);
        wire.wish(0, 0, 5, 0, 100);
        Check.play(wire, "o0:1 o1:2 d1 c0 t6");
        checkEnd("before the request", wire, 1, OptionWire.TOLD, 7);
        Check.same("allowed", wire.allowed(1, 0), 5);
        wire.wish(0, 0, 50, 0, 100);
        Check.play(wire, "l1 l1 l1 o0:1 d1");
        checkEnd("bad request in TOLD", wire, 1, OptionWire.ASKING, 7);
        Check.same("allowed no more", wire.allowed(1, 0), -1);
        Check.same("answers", Check.kinds(wire, 0), "[0 1 0 0 2]");
    }

    private static void badRequestLeavesHeardAndAsking() {
        OptionWire wire = wireWhereEndOneFinds(COUNTERED);
        Check.play(wire, "o0:1 t1 o1:2 l1 d0 d1 t2 d1");
        checkEnd("bad request in HEARD", wire, 1, OptionWire.HEARD, 9);
        Check.same("answers", Check.kinds(wire, 0), "[2]");
        wire = wireWhereEndOneFinds(REFUSED);
        Check.play(wire, "o0:1 o1:2 d1");
        checkEnd("bad request in ASKING", wire, 1, OptionWire.ASKING, 9);
        Check.same("answers", Check.kinds(wire, 0), "[0 3]");
    }

    private static void openedEndAsksAgainAtAGoodRequest() {
        OptionWire wire = wireWhereEndOneFinds(GOOD);
        Check.openBoth(wire);
        Check.play(wire, "c0 t6 l1 l1 l1");
        wire.wish(0, 0, 8, 0, 100);
        checkEnd("before the request", wire, 1, OptionWire.OPENED, 10);
        Check.play(wire, "o0:3 d1");
        checkEnd("good request in OPENED", wire, 1, OptionWire.TOLD, 9);
        Check.same("its request goes before its answer", Check.kinds(wire, 0), "[0 1]");
        Check.same("allowed", wire.allowed(1, 0), 8);
        Check.same("granted no more", wire.granted(1, 3), -1);
        Check.same("asked still", wire.asked(1, 3), 5);
        Check.play(wire, "d0 d0 d1");
        checkEnd("behind the yes", wire, 1, OptionWire.OPENED, 10);
        Check.same("state(0)", wire.state(0), OptionWire.OPENED);
    }

    private static void openedEndAsksAgainAtABadRequest() {
        OptionWire wire = new OptionWire();
        wire.allow(1, 0, 10, 20);
        wire.refuse(1, 1, true);
        Check.openBoth(wire);
        Check.play(wire, "c0 t6 l1 l1 l1");
        wire.wish(0, 0, 8, 0, 100);
        Check.play(wire, "o0:3 d1");
        checkEnd("bad request in OPENED", wire, 1, OptionWire.ASKING, 9);
        Check.same("its request goes before its answer", Check.kinds(wire, 0), "[0 2]");
        Check.play(wire, "t3");
        checkEnd("three ticks later", wire, 1, OptionWire.ASKING, 8);
    }

    private static void openedEndAsksForWhatItAskedForLast() {
        OptionWire wire = new OptionWire();
        wire.wish(1, 0, 50, 0, 100);
        wire.wish(1, 1, 51, 0, 100);
        wire.allow(0, 0, 0, 20);
        wire.refuse(0, 1, true);
        Check.openBoth(wire);
        Check.same("asked", Check.asked(wire, 1), "20 -1 -1 -1");
        Check.play(wire, "c0 t6 l1 l1 l1 o0:3 d1");
        Check.same("asked again", Check.asked(wire, 1), "20 -1 -1 -1");
        Check.play(wire, "d0");
        Check.same("allowed by the other end", wire.allowed(0, 0), 20);
        Check.same("allowed by the other end", wire.allowed(0, 1), -1);
    }

    private static void yesMovesAskingAndToldOn() {
        OptionWire wire = wireWhereEndOneFinds(GOOD);
        Check.play(wire, "o0:1 o1:2 l0 d1 d0");
        checkEnd("YES in ASKING", wire, 0, OptionWire.HEARD, 9);
        wire = wireWhereEndOneFinds(GOOD);
        Check.play(wire, "o0:1 o1:2 d1 d0");
        checkEnd("before the YES", wire, 0, OptionWire.TOLD, 9);
        Check.play(wire, "d0");
        checkEnd("YES in TOLD", wire, 0, OptionWire.OPENED, 10);
        Check.same("nothing is sent", Check.kinds(wire, 1), "[1]");
    }

    /**
     * At the end 0 a request, a YES and an answer wait, both answers with the number of its latest
     * request: the end 1 answers an old request of its own, that came back to it, and the end 0's.
     */
    private static OptionWire wireWithTwoAnswers(int judgement) {
        OptionWire wire = wireWhereEndOneFinds(judgement);
        Check.play(wire, "loop o1:2 unloop c1 t6 l0 l0 l0 o1:3 o0:1 d1 d1");
        Check.same("packets at the end 0", Check.kinds(wire, 0), "[0 1 " + judgement + "]");
        return wire;
    }

    private static void answersDoNothingInHeard() {
        for (int judgement = GOOD; judgement <= REFUSED; judgement++) {
            OptionWire wire = wireWithTwoAnswers(judgement);
            Check.play(wire, "l0 d0");
            checkEnd("behind the first YES", wire, 0, OptionWire.HEARD, 9);
            String before = Check.standing(wire).replace("[" + judgement + "]", "[]");
            wire.deliver(0);
            Check.same("answer " + judgement + " in HEARD", Check.standing(wire), before);
        }
    }

    private static void answersDoNothingInOpened() {
        for (int judgement = GOOD; judgement <= REFUSED; judgement++) {
            OptionWire wire = wireWithTwoAnswers(judgement);
            Check.play(wire, "d0 d0");
            checkEnd("behind the first YES", wire, 0, OptionWire.OPENED, 10);
            String before = Check.standing(wire);
            wire.deliver(0);
            Check.same("answer " + judgement + " in OPENED", Check.standing(wire),
                    before.replaceFirst("\\[" + judgement + "\\]", "[]"));
        }
    }

    private static void oldAnswersDoNothing() {
        for (int judgement = GOOD; judgement <= REFUSED; judgement++) {
            OptionWire wire = wireWhereEndOneFinds(judgement);
            Check.play(wire, "o0:1 o1:2 l0 d1 t3");
            String due = standingBehindDelivery(wire, judgement);
            wire.deliver(0);
            Check.same("old answer " + judgement + " in ASKING", Check.standing(wire), due);
            Check.same("state", wire.state(0), OptionWire.ASKING);
            wire = wireWhereEndOneFinds(judgement);
            Check.play(wire, "o0:1 o1:2 d1 d0 t3");
            due = standingBehindDelivery(wire, judgement);
            wire.deliver(0);
            Check.same("old answer " + judgement + " in TOLD", Check.standing(wire), due);
            Check.same("state", wire.state(0), OptionWire.TOLD);
        }
    }

    /** How things stand if the answer that waits ahead of a request at the end 0 does nothing. */
    private static String standingBehindDelivery(OptionWire wire, int answer) {
        return Check.standing(wire).replaceFirst("\\[" + answer + " 0\\]", "[0]");
    }

    private static void counterAndRefusalAskAgainInAsking() {
        for (int judgement = COUNTERED; judgement <= REFUSED; judgement++) {
            OptionWire wire = wireWhereEndOneFinds(judgement);
            Check.play(wire, "o0:1 o1:2 l0 d1 d0");
            checkEnd("answer " + judgement, wire, 0, OptionWire.ASKING, 8);
            Check.same("asked", wire.asked(0, 0), judgement == COUNTERED ? 60 : -1);
            Check.same("sent", Check.kinds(wire, 1), "[0]");
            Check.play(wire, "d1");
            Check.same("allowed", wire.allowed(1, 0), judgement == COUNTERED ? 60 : -1);
            Check.play(wire, "d0");
            checkEnd("YES to the second request", wire, 0, OptionWire.HEARD, 8);
        }
    }

    private static void counterAndRefusalAskAgainInTold() {
        for (int judgement = COUNTERED; judgement <= REFUSED; judgement++) {
            OptionWire wire = wireWhereEndOneFinds(judgement);
            Check.play(wire, "o0:1 o1:2 d0 d1 d0");
            checkEnd("answer " + judgement, wire, 0, OptionWire.TOLD, 8);
            Check.same("asked", wire.asked(0, 0), judgement == COUNTERED ? 60 : -1);
            Check.same("allowed still", wire.allowed(0, 3), 5);
            Check.same("sent", Check.kinds(wire, 1), "[1 0]");
            Check.play(wire, "d1 d1 d0");
            checkEnd("YES to the second request", wire, 0, OptionWire.OPENED, 10);
            checkEnd("the other end", wire, 1, OptionWire.OPENED, 10);
        }
    }

    private static void counterAndRefusalWithoutTriesFail() {
        for (int judgement = COUNTERED; judgement <= REFUSED; judgement++) {
            OptionWire wire = wireWhereEndOneFinds(judgement);
            Check.play(wire, "o0:1 t27 l1 l1 l1 l1 l1 l1 l1 l1 l1 o1:2 l0 d1");
            checkEnd("before the answer", wire, 0, OptionWire.ASKING, 0);
            Check.play(wire, "d0");
            checkEnd("answer " + judgement, wire, 0, OptionWire.FAILED, 0);
            Check.same("asked", wire.asked(0, 0), judgement == COUNTERED ? 60 : -1);
            Check.same("nothing is sent", Check.kinds(wire, 1), "[]");
        }
    }

    /** The end 0 gets the answer to an old request of the end 1, for an option it does not ask. */
    private static void counterOfAnUnaskedOptionIsTaken() {
        OptionWire wire = new OptionWire();
        wire.wish(1, 2, 50, 0, 100);
        wire.allow(1, 2, 70, 80);
        wire.wish(0, 1, 9, 0, 100);
        Check.play(wire, "loop o1:2 unloop c1 t6 l0 l0 l0 o1:3 l0 o0:1 d1 d0");
        Check.same("asked", Check.asked(wire, 0), "-1 9 70 -1");
        checkEnd("behind the COUNTER", wire, 0, OptionWire.ASKING, 8);
    }

    /** The second request is answered first of all: its answer is for the latest one. */
    private static void answersHaveTheNumberOfTheRequest() {
        OptionWire wire = wireWhereEndOneFinds(GOOD);
        Check.play(wire, "o0:1 t3 l1 o1:2 l0 d1 d0");
        checkEnd("YES to the second request", wire, 0, OptionWire.HEARD, 8);
        wire = wireWhereEndOneFinds(GOOD);
        Check.play(wire, "o0:1 t3 o1:2 l0 d1 d1 d0");
        checkEnd("YES to the first request", wire, 0, OptionWire.ASKING, 8);
        Check.play(wire, "d0");
        checkEnd("YES to the second request", wire, 0, OptionWire.HEARD, 8);
    }

    private static void thirdLoopIsTheEnd() {
        OptionWire wire = new OptionWire();
        Check.play(wire, "loop o1:7 d1");
        checkEnd("first loop", wire, 1, OptionWire.ASKING, 9);
        Check.play(wire, "t3 d1");
        checkEnd("second loop", wire, 1, OptionWire.ASKING, 8);
        Check.play(wire, "t3 d1");
        checkEnd("third loop", wire, 1, OptionWire.LOOPED, 7);
        Check.same("sent by ticks when LOOPED", wire.tick() + wire.tick() + wire.tick(), 0);
    }

    private static void loopsAreNotJudged() {
        OptionWire wire = wireWhereEndOneFinds(REFUSED);
        Check.play(wire, "o0:7 o1:7");
        String before = Check.standing(wire);
        Check.play(wire, "d1");
        Check.same("a loop in ASKING", Check.standing(wire),
                before.substring(0, before.length() - 3) + "[]");
    }

    /** The mark of the end 1 is the same as that with which the end 0 opens again. */
    private static void loopsLeaveAnOpenedEndAsItIs() {
        OptionWire wire = new OptionWire();
        Check.openBoth(wire);
        Check.play(wire, "c0 t6 l1 l1 l1 o0:2 t6");
        for (int loop = 1; loop <= 3; loop++) {
            checkEnd("before loop " + loop, wire, 1, OptionWire.OPENED, 10);
            Check.play(wire, "d1");
            Check.same("answers", Check.kinds(wire, 0), "[]");
        }
        Check.same("state", wire.state(1), OptionWire.LOOPED);
    }

    private static void anotherMarkStartsTheLoopsAgain() {
        OptionWire wire = new OptionWire();
        Check.play(wire, "loop o1:7 t3 unloop o0:3 loop t9");
        Check.play(wire, "d1 d1 d1");
        Check.same("behind another mark", wire.state(1), OptionWire.TOLD);
        Check.play(wire, "d1 d1");
        Check.same("behind two loops more", wire.state(1), OptionWire.TOLD);
        Check.play(wire, "d1");
        Check.same("behind three loops more", wire.state(1), OptionWire.LOOPED);
    }

    private static void otherPacketsDoNotStartTheLoopsAgain() {
        OptionWire wire = new OptionWire();
        Check.play(wire, "loop o1:7 t3 o0:3 c0 unloop d0 d0 loop t3");
        Check.same("packets", Check.kinds(wire, 1), "[0 0 5 0]");
        Check.play(wire, "d1 d1 d1");
        Check.same("behind two loops", wire.state(1), OptionWire.ASKING);
        Check.play(wire, "d1");
        Check.same("behind the third loop", wire.state(1), OptionWire.LOOPED);
        oldAnswersDoNotStartTheLoopsAgain();
    }

    private static void oldAnswersDoNotStartTheLoopsAgain() {
        OptionWire wire = new OptionWire();
        Check.play(wire, "o1:7 loop t3 o0:3 t3 unloop d0 loop t3");
        Check.same("packets", Check.kinds(wire, 1), "[0 0 1 0]");
        Check.play(wire, "d1 d1 d1");
        Check.same("behind two loops", wire.state(1), OptionWire.ASKING);
        Check.play(wire, "d1");
        Check.same("behind the third loop", wire.state(1), OptionWire.LOOPED);
    }
}
