/** Makes wires of which one end is in a certain state. */
final class States {
    static final int[] ALL = {
        OptionWire.CLOSED, OptionWire.ASKING, OptionWire.HEARD, OptionWire.TOLD,
        OptionWire.OPENED, OptionWire.CLOSING, OptionWire.FAILED, OptionWire.LOOPED,
    };
    static final int[] SHUT = {OptionWire.CLOSED, OptionWire.FAILED, OptionWire.LOOPED};
    static final int[] UP = {
        OptionWire.ASKING, OptionWire.HEARD, OptionWire.TOLD, OptionWire.OPENED,
    };
    static final int[] NOT_SHUT = {
        OptionWire.ASKING, OptionWire.HEARD, OptionWire.TOLD, OptionWire.OPENED,
        OptionWire.CLOSING,
    };
    static final int[] SHUT_OR_CLOSING = {
        OptionWire.CLOSED, OptionWire.FAILED, OptionWire.LOOPED, OptionWire.CLOSING,
    };

    private States() {
    }

    /** Nobody wishes anything; an end that is opened has the mark 1 or 2, the two not the same. */
    static OptionWire wireWithEndIn(int end, int state) {
        OptionWire wire = new OptionWire();
        bring(wire, end, state);
        return wire;
    }

    /** Of a wire whose ends have not been opened, and allow each other all they wish. */
    static void bring(OptionWire wire, int end, int state) {
        int other = 1 - end;
        switch (state) {
            case OptionWire.ASKING:
                wire.open(end, 1);
                break;
            case OptionWire.HEARD:
                wire.open(end, 1);
                wire.open(other, 2);
                wire.deliver(other);
                wire.lose(end);
                wire.deliver(end);
                break;
            case OptionWire.TOLD:
                wire.open(end, 1);
                wire.open(other, 2);
                wire.deliver(end);
                break;
            case OptionWire.OPENED:
                Check.openBoth(wire);
                break;
            case OptionWire.CLOSING:
                wire.open(end, 1);
                wire.close(end);
                break;
            case OptionWire.FAILED:
                wire.open(end, 1);
                Check.ticks(wire, 30);
                break;
            case OptionWire.LOOPED:
                wire.loop(true);
                wire.open(end, 1);
                Check.ticks(wire, 6);
                Check.deliverAll(wire, end);
                wire.loop(false);
                break;
            default:
                break;
        }
        Check.same("state that was to be reached", wire.state(end), state);
    }
}
