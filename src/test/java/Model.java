import java.util.ArrayDeque;
import java.util.ArrayList;
import java.util.EnumMap;
import java.util.List;
import java.util.Map;
import java.util.NoSuchElementException;
import java.util.TreeMap;

/**
 * A second reading of the document, told in its own words and as plainly as the Java library lets
 * it be, to compare the class with. It takes arguments within their ranges only.
 */
final class Model {
    enum State { CLOSED, ASKING, HEARD, TOLD, OPENED, CLOSING, FAILED, LOOPED }

    enum Kind { REQUEST, YES, COUNTER, REFUSAL, BYE, BYE_BYE }

    record Packet(Kind kind, int number, Map<Integer, Integer> values, int mark) {
    }

    static final class Side {
        final Map<Integer, Integer> wishes = new TreeMap<>();
        final Map<Integer, int[]> limits = new TreeMap<>();
        final Map<Integer, int[]> bounds = new TreeMap<>();
        final List<Integer> refused = new ArrayList<>();
        final ArrayDeque<Packet> line = new ArrayDeque<>();
        State state = State.CLOSED;
        Map<Integer, Integer> asked = new TreeMap<>();
        Map<Integer, Integer> saidYesTo = new TreeMap<>();
        int mark;
        int latest;
        int tries;
        int wait;
        int loopsInARow;
        int byes;
    }

    final Side[] sides = {new Side(), new Side()};
    /** How often each thing has happened, so that a test can see that its runs reach it. */
    final Map<State, Integer> entered = new EnumMap<>(State.class);
    boolean isLooped;
    int time;
    int sentInAll;

    static boolean shut(Side side) {
        return switch (side.state) {
            case CLOSED, FAILED, LOOPED -> true;
            default -> false;
        };
    }

    private void enter(Side side, State state) {
        side.state = state;
        entered.merge(state, 1, Integer::sum);
        if (state == State.OPENED) {
            side.tries = 10;
        }
    }

    private void needShut(Side side) {
        if (!shut(side)) {
            throw new IllegalStateException();
        }
    }

    int wish(int end, int option, int wish, int least, int most) {
        Side side = sides[end];
        needShut(side);
        side.limits.put(option, new int[] {least, most});
        Integer before = wish == -1 ? side.wishes.remove(option) : side.wishes.put(option, wish);
        return before == null ? -1 : before;
    }

    void allow(int end, int option, int least, int most) {
        needShut(sides[end]);
        sides[end].bounds.put(option, new int[] {least, most});
    }

    boolean refuse(int end, int option, boolean isRefused) {
        needShut(sides[end]);
        boolean before = sides[end].refused.remove((Integer) option);
        if (isRefused) {
            sides[end].refused.add(option);
        }
        return before;
    }

    void open(int end, int mark) {
        Side side = sides[end];
        needShut(side);
        enter(side, State.ASKING);
        side.tries = 10;
        side.mark = mark;
        side.loopsInARow = 0;
        side.asked = new TreeMap<>(side.wishes);
        ask(end);
    }

    void close(int end) {
        Side side = sides[end];
        if (shut(side) || side.state == State.CLOSING) {
            throw new IllegalStateException();
        }
        enter(side, State.CLOSING);
        side.byes = 1;
        side.wait = 2;
        send(end, new Packet(Kind.BYE, 0, Map.of(), 0));
    }

    private void send(int end, Packet packet) {
        sentInAll++;
        Side to = isLooped ? sides[end] : sides[1 - end];
        if (to.line.size() < 12) {
            to.line.addLast(packet);
        }
    }

    private void ask(int end) {
        Side side = sides[end];
        if (side.tries == 0) {
            enter(side, State.FAILED);
        } else {
            side.tries -= 1;
            side.latest += 1;
            side.wait = 3;
            send(end, new Packet(Kind.REQUEST, side.latest, Map.copyOf(side.asked), side.mark));
        }
    }

    int lose(int end) {
        if (sides[end].line.isEmpty()) {
            throw new NoSuchElementException();
        }
        return sides[end].line.removeFirst().kind().ordinal();
    }

    int deliver(int end) {
        Side side = sides[end];
        if (side.line.isEmpty()) {
            throw new NoSuchElementException();
        }
        Packet packet = side.line.removeFirst();
        boolean doesNothing = shut(side) || side.state == State.CLOSING;
        switch (packet.kind()) {
            case BYE -> {
                send(end, new Packet(Kind.BYE_BYE, 0, Map.of(), 0));
                if (!doesNothing) {
                    enter(side, State.CLOSED);
                }
            }
            case BYE_BYE -> {
                if (side.state == State.CLOSING) {
                    enter(side, State.CLOSED);
                }
            }
            case REQUEST -> {
                if (!doesNothing) {
                    request(end, packet);
                }
            }
            default -> {
                if (!doesNothing && packet.number() == side.latest) {
                    answer(end, packet);
                }
            }
        }
        return packet.kind().ordinal();
    }

    private void answer(int end, Packet packet) {
        Side side = sides[end];
        if (packet.kind() == Kind.YES) {
            if (side.state == State.ASKING) {
                enter(side, State.HEARD);
            } else if (side.state == State.TOLD) {
                enter(side, State.OPENED);
            }
            return;
        }
        if (side.state != State.ASKING && side.state != State.TOLD) {
            return;
        }
        for (Map.Entry<Integer, Integer> entry : packet.values().entrySet()) {
            int[] limits = side.limits.getOrDefault(entry.getKey(), new int[] {0, 100});
            boolean isTaken = packet.kind() == Kind.COUNTER
                    && limits[0] <= entry.getValue() && entry.getValue() <= limits[1];
            side.asked.remove(entry.getKey());
            if (isTaken) {
                side.asked.put(entry.getKey(), entry.getValue());
            }
        }
        ask(end);
    }

    private void request(int end, Packet packet) {
        Side side = sides[end];
        if (packet.mark() == side.mark) {
            side.loopsInARow += 1;
            if (side.loopsInARow == 3) {
                enter(side, State.LOOPED);
            }
            return;
        }
        side.loopsInARow = 0;
        if (side.state == State.OPENED) {
            enter(side, State.ASKING);
            side.tries = 10;
            ask(end);
        }
        Packet answer = judge(side, packet);
        send(end, answer);
        if (answer.kind() != Kind.YES) {
            if (side.state == State.TOLD) {
                enter(side, State.ASKING);
            }
            return;
        }
        side.saidYesTo = packet.values();
        if (side.state == State.ASKING) {
            enter(side, State.TOLD);
        } else if (side.state == State.HEARD) {
            enter(side, State.OPENED);
        }
    }

    private static Packet judge(Side side, Packet packet) {
        Map<Integer, Integer> refused = new TreeMap<>(packet.values());
        refused.keySet().retainAll(side.refused);
        Map<Integer, Integer> countered = new TreeMap<>();
        for (Map.Entry<Integer, Integer> entry : packet.values().entrySet()) {
            int[] bounds = side.bounds.getOrDefault(entry.getKey(), new int[] {0, 100});
            if (entry.getValue() < bounds[0]) {
                countered.put(entry.getKey(), bounds[0]);
            } else if (entry.getValue() > bounds[1]) {
                countered.put(entry.getKey(), bounds[1]);
            }
        }
        if (!refused.isEmpty()) {
            return new Packet(Kind.REFUSAL, packet.number(), refused, 0);
        }
        if (!countered.isEmpty()) {
            return new Packet(Kind.COUNTER, packet.number(), countered, 0);
        }
        return new Packet(Kind.YES, packet.number(), packet.values(), 0);
    }

    int tick() {
        int before = sentInAll;
        time += 1;
        for (int end = 0; end <= 1; end++) {
            Side side = sides[end];
            if (!shut(side) && side.state != State.OPENED) {
                side.wait -= 1;
                if (side.wait == 0) {
                    timeOut(end);
                }
            }
        }
        return sentInAll - before;
    }

    private void timeOut(int end) {
        Side side = sides[end];
        if (side.state != State.CLOSING) {
            if (side.state == State.HEARD) {
                enter(side, State.ASKING);
            }
            ask(end);
        } else if (side.byes < 3) {
            side.byes += 1;
            side.wait = 2;
            send(end, new Packet(Kind.BYE, 0, Map.of(), 0));
        } else {
            enter(side, State.CLOSED);
        }
    }

    boolean loop(boolean shallLoop) {
        boolean before = isLooped;
        isLooped = shallLoop;
        return before;
    }

    int state(int end) {
        return sides[end].state.ordinal();
    }

    int asked(int end, int option) {
        return sides[end].asked.getOrDefault(option, -1);
    }

    int granted(int end, int option) {
        return switch (sides[end].state) {
            case HEARD, OPENED -> asked(end, option);
            default -> -1;
        };
    }

    int allowed(int end, int option) {
        return switch (sides[end].state) {
            case TOLD, OPENED -> sides[end].saidYesTo.getOrDefault(option, -1);
            default -> -1;
        };
    }

    int kindAt(int end, int place) {
        List<Packet> packets = new ArrayList<>(sides[end].line);
        if (place < 0 || place >= packets.size()) {
            throw new NoSuchElementException();
        }
        return packets.get(place).kind().ordinal();
    }

    char lineChar(int end, int place) {
        String text = line(end);
        if (place < 0 || place >= text.length()) {
            throw new NoSuchElementException();
        }
        return text.charAt(place);
    }

    String line(int end) {
        String text = sides[end].state.name().toLowerCase();
        for (Map.Entry<Integer, Integer> entry : sides[end].asked.entrySet()) {
            text += " " + "abcd".charAt(entry.getKey()) + entry.getValue();
        }
        return text;
    }

    /** The same text as that of Check.standing. */
    String standing() {
        String text = "time " + time;
        for (int end = 0; end <= 1; end++) {
            text += "; end " + end + ": " + line(end) + ", state " + state(end) + ", tries "
                    + sides[end].tries + ", asked/granted/allowed";
            for (int option = 0; option <= 3; option++) {
                text += " " + asked(end, option) + "/" + granted(end, option) + "/"
                        + allowed(end, option);
            }
            List<String> kinds = new ArrayList<>();
            for (Packet packet : sides[end].line) {
                kinds.add(String.valueOf(packet.kind().ordinal()));
            }
            text += ", waiting [" + String.join(" ", kinds) + "]";
        }
        return text;
    }
}
