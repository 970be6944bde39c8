import java.util.NoSuchElementException;

/**
 * A link between two ends that negotiate options before it opens: each end asks for values, the
 * other one says yes, counters or refuses; requests are sent again when time runs out, a looped
 * wire is found by marks, and ends say good-bye.
 */
public final class OptionWire {
    public static final int NONE = -1;

    public static final int CLOSED = 0;
    public static final int ASKING = 1;
    public static final int HEARD = 2;
    public static final int TOLD = 3;
    public static final int OPENED = 4;
    public static final int CLOSING = 5;
    public static final int FAILED = 6;
    public static final int LOOPED = 7;

    public static final int REQUEST = 0;
    public static final int YES = 1;
    public static final int COUNTER = 2;
    public static final int REFUSAL = 3;
    public static final int BYE = 4;
    public static final int BYE_BYE = 5;

    private static final int OPTIONS = 4;
    private static final int GREATEST_VALUE = 100;
    private static final int GREATEST_MARK = 999;
    private static final int PLACES = 12;
    private static final int FULL_TRIES = 10;
    private static final int TICKS_AFTER_REQUEST = 3;
    private static final int TICKS_AFTER_BYE = 2;
    private static final int MOST_BYES = 3;
    private static final int MOST_LOOPS = 3;

    // What stands in a packet whose kind has no number, no mark or no values.
    private static final int NO_NUMBER = 0;
    private static final int NO_MARK = 0;
    private static final int[] NO_VALUES = {-1, -1, -1, -1};

    private final End firstEnd = new End();
    private final End secondEnd = new End();
    private boolean looped = false;
    private int now = 0;
    private int packetsSent = 0;

    // Made once and used again by every call, as all calls share one room.
    private final Packet arrived = new Packet();
    private final int[] answer = new int[OPTIONS];
    private final StringBuilder line = new StringBuilder();

    public OptionWire() {
    }

    // ---- what the ends want

    public int wish(int end, int option, int wish, int least, int most)
            throws IllegalArgumentException, IllegalStateException {
        checkEnd(end);
        checkOption(option);
        checkRange(least, most);
        if (wish != NONE && (wish < least || wish > most)) {
            throw new IllegalArgumentException("the wish is not within the limits");
        }
        End wisher = endOf(end);
        checkShut(wisher);
        int before = wisher.wishes[option];
        wisher.wishes[option] = wish;
        wisher.leastAsked[option] = least;
        wisher.mostAsked[option] = most;
        return before;
    }

    public void allow(int end, int option, int least, int most)
            throws IllegalArgumentException, IllegalStateException {
        checkEnd(end);
        checkOption(option);
        checkRange(least, most);
        End allower = endOf(end);
        checkShut(allower);
        allower.leastAllowed[option] = least;
        allower.mostAllowed[option] = most;
    }

    public boolean refuse(int end, int option, boolean isRefused)
            throws IllegalArgumentException, IllegalStateException {
        checkEnd(end);
        checkOption(option);
        End refuser = endOf(end);
        checkShut(refuser);
        boolean before = refuser.refused[option];
        refuser.refused[option] = isRefused;
        return before;
    }

    public boolean loop(boolean isLooped) {
        boolean before = looped;
        looped = isLooped;
        return before;
    }

    // ---- opening, closing, packets, time

    public void open(int end, int mark) throws IllegalArgumentException, IllegalStateException {
        checkEnd(end);
        if (mark < 1 || mark > GREATEST_MARK) {
            throw new IllegalArgumentException("a mark is 1 to 999");
        }
        End opener = endOf(end);
        checkShut(opener);
        opener.state = ASKING;
        opener.tries = FULL_TRIES;
        opener.mark = mark;
        opener.loops = 0;
        copyValues(opener.wishes, opener.asked);
        sendRequest(end);
    }

    public void close(int end) throws IllegalArgumentException, IllegalStateException {
        checkEnd(end);
        End closer = endOf(end);
        if (!closer.isUp()) {
            throw new IllegalStateException("the end is shut or CLOSING");
        }
        closer.state = CLOSING;
        closer.byes = 0;
        sendBye(end);
    }

    public int deliver(int end) throws IllegalArgumentException, NoSuchElementException {
        checkEnd(end);
        PacketQueue packets = endOf(end).packets;
        checkPlace(packets, 0);
        packets.takeFirst(arrived);
        hear(end);
        return arrived.kind;
    }

    public int lose(int end) throws IllegalArgumentException, NoSuchElementException {
        checkEnd(end);
        PacketQueue packets = endOf(end).packets;
        checkPlace(packets, 0);
        int kind = packets.kindOf(0);
        packets.dropFirst();
        return kind;
    }

    public int tick() {
        int sentBefore = packetsSent;
        now++;
        waitOneTickLess(0);
        waitOneTickLess(1);
        return packetsSent - sentBefore;
    }

    // ---- how things stand

    public int time() {
        return now;
    }

    public int state(int end) throws IllegalArgumentException {
        checkEnd(end);
        return endOf(end).state;
    }

    public int tries(int end) throws IllegalArgumentException {
        checkEnd(end);
        return endOf(end).tries;
    }

    public int asked(int end, int option) throws IllegalArgumentException {
        checkEnd(end);
        checkOption(option);
        return endOf(end).asked[option];
    }

    public int granted(int end, int option) throws IllegalArgumentException {
        checkEnd(end);
        checkOption(option);
        End asker = endOf(end);
        boolean isGranted = asker.state == HEARD || asker.state == OPENED;
        return isGranted ? asker.asked[option] : NONE;
    }

    public int allowed(int end, int option) throws IllegalArgumentException {
        checkEnd(end);
        checkOption(option);
        End allower = endOf(end);
        boolean hasAllowed = allower.state == TOLD || allower.state == OPENED;
        return hasAllowed ? allower.agreed[option] : NONE;
    }

    public int waiting(int end) throws IllegalArgumentException {
        checkEnd(end);
        return endOf(end).packets.count;
    }

    public int kindAt(int end, int place) throws IllegalArgumentException, NoSuchElementException {
        checkEnd(end);
        PacketQueue packets = endOf(end).packets;
        checkPlace(packets, place);
        return packets.kindOf(place);
    }

    public int lineLength(int end) throws IllegalArgumentException {
        checkEnd(end);
        writeLine(endOf(end));
        return line.length();
    }

    public char lineChar(int end, int place)
            throws IllegalArgumentException, NoSuchElementException {
        checkEnd(end);
        writeLine(endOf(end));
        if (place < 0 || place >= line.length()) {
            throw new NoSuchElementException("the line has no such place");
        }
        return line.charAt(place);
    }

    // ---- checks of arguments and states

    private static void checkEnd(int end) {
        if (end < 0 || end > 1) {
            throw new IllegalArgumentException("an end is 0 or 1");
        }
    }

    private static void checkOption(int option) {
        if (option < 0 || option >= OPTIONS) {
            throw new IllegalArgumentException("an option is 0 to 3");
        }
    }

    private static void checkRange(int least, int most) {
        if (least < 0 || most < least || most > GREATEST_VALUE) {
            throw new IllegalArgumentException("least and most are 0 to 100, most not below least");
        }
    }

    private static void checkShut(End end) {
        if (!end.isShut()) {
            throw new IllegalStateException("the end is not shut");
        }
    }

    private static void checkPlace(PacketQueue packets, int place) {
        if (place < 0 || place >= packets.count) {
            throw new NoSuchElementException("no packet waits there");
        }
    }

    private End endOf(int end) {
        return end == 0 ? firstEnd : secondEnd;
    }

    // ---- sending

    private void send(int end, int kind, int number, int mark, int[] values) {
        End receiver = endOf(looped ? end : 1 - end);
        packetsSent++;
        receiver.packets.add(kind, number, mark, values);
    }

    private void sendRequest(int end) {
        End sender = endOf(end);
        if (sender.tries == 0) {
            sender.state = FAILED;
            return;
        }
        sender.tries--;
        sender.number++;
        sender.ticksLeft = TICKS_AFTER_REQUEST;
        send(end, REQUEST, sender.number, sender.mark, sender.asked);
    }

    private void sendBye(int end) {
        End sender = endOf(end);
        sender.byes++;
        sender.ticksLeft = TICKS_AFTER_BYE;
        send(end, BYE, NO_NUMBER, NO_MARK, NO_VALUES);
    }

    // ---- hearing the packet that has arrived

    private void hear(int end) {
        End hearer = endOf(end);
        if (arrived.kind == BYE) {
            hearBye(end);
        } else if (arrived.kind == BYE_BYE) {
            hearByeBye(hearer);
        } else if (hearer.isUp()) {
            if (arrived.kind == REQUEST) {
                hearRequest(end);
            } else if (arrived.number == hearer.number) {
                hearAnswer(end);
            }
        }
    }

    private void hearBye(int end) {
        End hearer = endOf(end);
        send(end, BYE_BYE, NO_NUMBER, NO_MARK, NO_VALUES);
        if (hearer.isUp()) {
            hearer.state = CLOSED;
        }
    }

    private static void hearByeBye(End hearer) {
        if (hearer.state == CLOSING) {
            hearer.state = CLOSED;
        }
    }

    private void hearAnswer(int end) {
        End hearer = endOf(end);
        if (arrived.kind == YES) {
            hearYes(hearer);
        } else if (hearer.state == ASKING || hearer.state == TOLD) {
            if (arrived.kind == COUNTER) {
                hearer.takeCounter(arrived.values);
            } else {
                hearer.takeRefusal(arrived.values);
            }
            sendRequest(end);
        }
    }

    private static void hearYes(End hearer) {
        if (hearer.state == ASKING) {
            hearer.state = HEARD;
        } else if (hearer.state == TOLD) {
            hearer.becomeOpened();
        }
    }

    private void hearRequest(int end) {
        End hearer = endOf(end);
        if (arrived.mark == hearer.mark) {
            hearer.countLoop();
            return;
        }
        hearer.loops = 0;
        if (hearer.state == OPENED) {
            hearer.state = ASKING;
            hearer.tries = FULL_TRIES;
            sendRequest(end);
        }
        if (answerRequest(end)) {
            hearer.moveOnAfterYes();
        } else if (hearer.state == TOLD) {
            hearer.state = ASKING;
        }
    }

    private boolean answerRequest(int end) {
        End judge = endOf(end);
        int kind = judge.judge(arrived.values, answer);
        boolean isGood = kind == YES;
        if (isGood) {
            copyValues(answer, judge.agreed);
        }
        send(end, kind, arrived.number, NO_MARK, answer);
        return isGood;
    }

    // ---- time

    private void waitOneTickLess(int end) {
        End waiter = endOf(end);
        if (waiter.isWaiting()) {
            waiter.ticksLeft--;
            if (waiter.ticksLeft == 0) {
                stopWaiting(end);
            }
        }
    }

    private void stopWaiting(int end) {
        End waiter = endOf(end);
        if (waiter.state != CLOSING) {
            if (waiter.state == HEARD) {
                waiter.state = ASKING;
            }
            sendRequest(end);
        } else if (waiter.byes < MOST_BYES) {
            sendBye(end);
        } else {
            waiter.state = CLOSED;
        }
    }

    // ---- the line of an end

    private void writeLine(End end) {
        line.setLength(0);
        line.append(nameOf(end.state));
        for (int option = 0; option < OPTIONS; option++) {
            if (end.asked[option] != NONE) {
                line.append(' ').append((char) ('a' + option)).append(end.asked[option]);
            }
        }
    }

    private static String nameOf(int state) {
        switch (state) {
            case ASKING:
                return "asking";
            case HEARD:
                return "heard";
            case TOLD:
                return "told";
            case OPENED:
                return "opened";
            case CLOSING:
                return "closing";
            case FAILED:
                return "failed";
            case LOOPED:
                return "looped";
            default:
                return "closed";
        }
    }

    // ---- rows of values, one place for each option, NONE where there is no value

    private static void copyValues(int[] from, int[] to) {
        for (int option = 0; option < OPTIONS; option++) {
            to[option] = from[option];
        }
    }

    /** What one end wants and how it stands. */
    private static final class End {
        final int[] wishes = new int[OPTIONS];
        final int[] leastAsked = new int[OPTIONS];
        final int[] mostAsked = new int[OPTIONS];
        final int[] leastAllowed = new int[OPTIONS];
        final int[] mostAllowed = new int[OPTIONS];
        final boolean[] refused = new boolean[OPTIONS];
        final int[] asked = new int[OPTIONS];
        // The values of the request to which the end said yes last.
        final int[] agreed = new int[OPTIONS];
        final PacketQueue packets = new PacketQueue();
        int state = CLOSED;
        int mark = NO_MARK;
        int number = 0;
        int tries = 0;
        int ticksLeft = 0;
        int loops = 0;
        int byes = 0;

        End() {
            for (int option = 0; option < OPTIONS; option++) {
                wishes[option] = NONE;
                mostAsked[option] = GREATEST_VALUE;
                mostAllowed[option] = GREATEST_VALUE;
                asked[option] = NONE;
                agreed[option] = NONE;
            }
        }

        boolean isShut() {
            return state == CLOSED || state == FAILED || state == LOOPED;
        }

        boolean isUp() {
            return !isShut() && state != CLOSING;
        }

        boolean isWaiting() {
            return !isShut() && state != OPENED;
        }

        void becomeOpened() {
            state = OPENED;
            tries = FULL_TRIES;
        }

        void moveOnAfterYes() {
            if (state == ASKING) {
                state = TOLD;
            } else if (state == HEARD) {
                becomeOpened();
            }
        }

        void countLoop() {
            loops++;
            if (loops == MOST_LOOPS) {
                state = LOOPED;
            }
        }

        void takeCounter(int[] values) {
            for (int option = 0; option < OPTIONS; option++) {
                int value = values[option];
                if (value != NONE) {
                    boolean isWithin = value >= leastAsked[option] && value <= mostAsked[option];
                    asked[option] = isWithin ? value : NONE;
                }
            }
        }

        void takeRefusal(int[] values) {
            for (int option = 0; option < OPTIONS; option++) {
                if (values[option] != NONE) {
                    asked[option] = NONE;
                }
            }
        }

        /** Puts the values of the answer to a request into a row; returns the answer's kind. */
        int judge(int[] values, int[] answer) {
            if (putRefused(values, answer)) {
                return REFUSAL;
            }
            if (putNearest(values, answer)) {
                return COUNTER;
            }
            copyValues(values, answer);
            return YES;
        }

        private boolean putRefused(int[] values, int[] answer) {
            boolean any = false;
            for (int option = 0; option < OPTIONS; option++) {
                boolean isRefused = values[option] != NONE && refused[option];
                answer[option] = isRefused ? values[option] : NONE;
                any = any || isRefused;
            }
            return any;
        }

        private boolean putNearest(int[] values, int[] answer) {
            boolean any = false;
            for (int option = 0; option < OPTIONS; option++) {
                int value = values[option];
                int nearest =
                        Math.min(Math.max(value, leastAllowed[option]), mostAllowed[option]);
                boolean isOutside = value != NONE && value != nearest;
                answer[option] = isOutside ? nearest : NONE;
                any = any || isOutside;
            }
            return any;
        }
    }

    /** A packet that has been taken from its queue. */
    private static final class Packet {
        final int[] values = new int[OPTIONS];
        int kind = REQUEST;
        int number = NO_NUMBER;
        int mark = NO_MARK;
    }

    /** The packets that wait at an end, in a ring of places. */
    private static final class PacketQueue {
        private final int[] kinds = new int[PLACES];
        private final int[] numbers = new int[PLACES];
        private final int[] marks = new int[PLACES];
        private final int[] values = new int[PLACES * OPTIONS];
        private int first = 0;
        int count = 0;

        /** Adds a packet behind the others; it is lost if all places are taken. */
        void add(int kind, int number, int mark, int[] packetValues) {
            if (count >= PLACES) {
                return;
            }
            int slot = slotOf(count);
            kinds[slot] = kind;
            numbers[slot] = number;
            marks[slot] = mark;
            for (int option = 0; option < OPTIONS; option++) {
                values[slot * OPTIONS + option] = packetValues[option];
            }
            count++;
        }

        /** Of a queue that is not empty. */
        void takeFirst(Packet packet) {
            packet.kind = kinds[first];
            packet.number = numbers[first];
            packet.mark = marks[first];
            for (int option = 0; option < OPTIONS; option++) {
                packet.values[option] = values[first * OPTIONS + option];
            }
            dropFirst();
        }

        /** Of a queue that is not empty. */
        void dropFirst() {
            first = slotOf(1);
            count--;
        }

        /** Of a place that is taken. */
        int kindOf(int place) {
            return kinds[slotOf(place)];
        }

        private int slotOf(int place) {
            return (first + place) % PLACES;
        }
    }
}
