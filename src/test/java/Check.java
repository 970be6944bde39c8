/** What the tests share: it prints every answer that is not the one that is due. */
final class Check {
    private static int checks = 0;
    private static int wrong = 0;

    interface Maker {
        OptionWire make();
    }

    interface Call {
        void on(OptionWire wire);
    }

    private Check() {
    }

    static void same(String what, long got, long due) {
        same(what, String.valueOf(got), String.valueOf(due));
    }

    static void same(String what, boolean got, boolean due) {
        same(what, String.valueOf(got), String.valueOf(due));
    }

    static void same(String what, String got, String due) {
        checks++;
        if (!got.equals(due)) {
            wrong++;
            System.out.println(what + " answered " + got + ", due is " + due);
        }
    }

    /**
     * On a wire that is made for it the call throws exactly this class and changes nothing: neither
     * what can be asked for at once nor what comes to light later.
     */
    static void illegalArgument(String what, Maker maker, Call call) {
        throwing(what, maker, IllegalArgumentException.class, call);
    }

    static void illegalState(String what, Maker maker, Call call) {
        throwing(what, maker, IllegalStateException.class, call);
    }

    static void noSuchElement(String what, Maker maker, Call call) {
        throwing(what, maker, java.util.NoSuchElementException.class, call);
    }

    private static void throwing(String what, Maker maker, Class<?> due, Call call) {
        OptionWire wire = maker.make();
        OptionWire twin = maker.make();
        same(what + " throws", thrown(wire, call), due.getName());
        same("how things stand after " + what, standing(wire), standing(twin));
        same("how things go on after " + what, future(wire), future(twin));
    }

    /** For a test that looks itself at what the call has left as it was. */
    static void throwsOnly(String what, OptionWire wire, Call call) {
        same(what + " throws something", thrown(wire, call).equals("nothing"), false);
    }

    private static String thrown(OptionWire wire, Call call) {
        try {
            call.on(wire);
        } catch (RuntimeException e) {
            return e.getClass().getName();
        }
        return "nothing";
    }

    /** What could not be asked for at once: how long the ends wait, and all that they want. */
    private static String future(OptionWire wire) {
        StringBuilder text = new StringBuilder("sent by ticks");
        for (int i = 0; i < 3; i++) {
            text.append(' ').append(wire.tick());
        }
        deliverAll(wire, 0);
        deliverAll(wire, 1);
        text.append("; ").append(standing(wire));
        text.append("; looped ").append(wire.loop(false));
        shutBoth(wire);
        openBoth(wire);
        for (int end = 0; end <= 1; end++) {
            text.append("; opened with ").append(asked(wire, end));
        }
        shutBoth(wire);
        for (int end = 0; end <= 1; end++) {
            for (int option = 0; option <= 3; option++) {
                text.append("; wish ").append(wire.wish(end, option, OptionWire.NONE, 0, 100));
                text.append(", refused ").append(wire.refuse(end, option, false));
            }
        }
        return text.toString();
    }

    private static void shutBoth(OptionWire wire) {
        for (int end = 0; end <= 1; end++) {
            int state = wire.state(end);
            if (state >= OptionWire.ASKING && state <= OptionWire.OPENED) {
                wire.close(end);
            }
        }
        ticks(wire, 6);
        loseAll(wire, 0);
        loseAll(wire, 1);
    }

    /** All that can be asked for without a change. */
    static String standing(OptionWire wire) {
        StringBuilder text = new StringBuilder("time " + wire.time());
        for (int end = 0; end <= 1; end++) {
            text.append("; end ").append(end).append(": ").append(line(wire, end));
            text.append(", state ").append(wire.state(end));
            text.append(", tries ").append(wire.tries(end));
            text.append(", asked/granted/allowed");
            for (int option = 0; option <= 3; option++) {
                text.append(' ').append(wire.asked(end, option));
                text.append('/').append(wire.granted(end, option));
                text.append('/').append(wire.allowed(end, option));
            }
            text.append(", waiting ").append(kinds(wire, end));
        }
        return text.toString();
    }

    static String line(OptionWire wire, int end) {
        StringBuilder text = new StringBuilder();
        int length = wire.lineLength(end);
        for (int place = 0; place < length; place++) {
            text.append(wire.lineChar(end, place));
        }
        return text.toString();
    }

    static String kinds(OptionWire wire, int end) {
        StringBuilder text = new StringBuilder("[");
        int count = wire.waiting(end);
        for (int place = 0; place < count; place++) {
            text.append(place == 0 ? "" : " ").append(wire.kindAt(end, place));
        }
        return text.append(']').toString();
    }

    /** The asked values of an end, option by option. */
    static String asked(OptionWire wire, int end) {
        return wire.asked(end, 0) + " " + wire.asked(end, 1) + " "
                + wire.asked(end, 2) + " " + wire.asked(end, 3);
    }

    static void ticks(OptionWire wire, int count) {
        for (int i = 0; i < count; i++) {
            wire.tick();
        }
    }

    /**
     * Makes calls told by short words: o0:7 is open(0, 7), c0 is close(0), d0 is deliver(0), l0 is
     * lose(0), x0 is lose(0) until none waits, q0 closes the end 0, at which nothing waits, so that
     * the other end hears nothing of it, t3 is three ticks, "loop" and "unloop" are loop(true) and
     * loop(false).
     */
    static void play(OptionWire wire, String moves) {
        for (String move : moves.split(" ")) {
            if (move.equals("loop") || move.equals("unloop")) {
                wire.loop(move.equals("loop"));
            } else if (move.charAt(0) == 't') {
                ticks(wire, Integer.parseInt(move.substring(1)));
            } else {
                playAtEnd(wire, move, move.charAt(1) - '0');
            }
        }
    }

    private static void playAtEnd(OptionWire wire, String move, int end) {
        switch (move.charAt(0)) {
            case 'o':
                wire.open(end, Integer.parseInt(move.substring(3)));
                break;
            case 'c':
                wire.close(end);
                break;
            case 'd':
                wire.deliver(end);
                break;
            case 'l':
                wire.lose(end);
                break;
            case 'x':
                loseAll(wire, end);
                break;
            case 'q':
                closeQuietly(wire, end);
                break;
            default:
                throw new IllegalArgumentException(move);
        }
    }

    /** The end says good-bye to itself. */
    private static void closeQuietly(OptionWire wire, int end) {
        wire.loop(true);
        wire.close(end);
        wire.deliver(end);
        wire.deliver(end);
        wire.loop(false);
    }

    static void deliverAll(OptionWire wire, int end) {
        for (int i = wire.waiting(end); i > 0; i--) {
            wire.deliver(end);
        }
    }

    static void loseAll(OptionWire wire, int end) {
        for (int i = wire.waiting(end); i > 0; i--) {
            wire.lose(end);
        }
    }

    /** A wire on which these moves have been played. */
    static OptionWire played(String moves) {
        OptionWire wire = new OptionWire();
        play(wire, moves);
        return wire;
    }

    /** Two ends that have opened with their wishes; marks 1 and 2, nothing waits. */
    static void openBoth(OptionWire wire) {
        wire.open(0, 1);
        wire.open(1, 2);
        for (int round = 0; round < 20 && wire.waiting(0) + wire.waiting(1) > 0; round++) {
            deliverAll(wire, 1);
            deliverAll(wire, 0);
        }
    }

    static void finish() {
        System.out.println(checks + " answers looked at, " + wrong + " not as due");
        if (wrong != 0) {
            System.exit(1);
        }
    }
}
