import java.util.EnumMap;
import java.util.Map;

/** Runs of calls, each compared with a second reading of the document, Model. */
public final class ModelTest {
    private static final int RUNS = 12000;
    /** With as many questions, and all that is asked at the end, these stay within 512 calls. */
    private static final int MOST_MOVES = 190;

    private final Map<Model.State, Integer> entered = new EnumMap<>(Model.State.class);
    private long seed = 20261120;
    private OptionWire wire;
    private Model model;
    private StringBuilder calls;
    private int tickWeight;
    private boolean isRight;

    private interface Answer {
        Object give();
    }

    public static void main(String[] args) {
        new ModelTest().run();
        Check.finish();
    }

    private void run() {
        for (int run = 0; run < RUNS; run++) {
            wire = new OptionWire();
            model = new Model();
            calls = new StringBuilder("run " + run + ":");
            tickWeight = 5 + below(30);
            isRight = true;
            int moves = 1 + below(MOST_MOVES);
            for (int move = 0; move < moves && isRight; move++) {
                makeSomeMove();
                askSomeQuestion();
            }
            if (isRight) {
                Check.same(calls.toString(), Check.standing(wire), model.standing());
            }
            model.entered.forEach((state, times) -> entered.merge(state, times, Integer::sum));
        }
        for (Model.State state : Model.State.values()) {
            Check.same("runs reach " + state, entered.getOrDefault(state, 0) > 100, true);
        }
    }

    private int below(int bound) {
        seed = seed * 6364136223846793005L + 1442695040888963407L;
        return (int) ((seed >>> 33) % bound);
    }

    private void makeSomeMove() {
        int end = below(2);
        int choice = below(75 + tickWeight);
        if (choice < 40) {
            compare("deliver(" + end + ")", () -> wire.deliver(end), () -> model.deliver(end));
        } else if (choice < 44) {
            compare("lose(" + end + ")", () -> wire.lose(end), () -> model.lose(end));
        } else if (choice < 46) {
            compare("close(" + end + ")", () -> nothing(() -> wire.close(end)),
                    () -> nothing(() -> model.close(end)));
        } else if (choice < 58) {
            int mark = 1 + below(3);
            compare("open(" + end + ", " + mark + ")", () -> nothing(() -> wire.open(end, mark)),
                    () -> nothing(() -> model.open(end, mark)));
        } else if (choice < 61) {
            boolean isLooped = below(3) == 0;
            compare("loop(" + isLooped + ")", () -> wire.loop(isLooped),
                    () -> model.loop(isLooped));
        } else if (choice < 75) {
            setSomeWant(end, below(4));
        } else {
            compare("tick()", wire::tick, model::tick);
        }
    }

    private void setSomeWant(int end, int option) {
        int least = below(3) * 20 + below(2);
        int most = Math.min(100, least + below(4) * 20);
        String which = "(" + end + ", " + option + ", ";
        switch (below(3)) {
            case 0:
                int wish = below(4) == 0 ? -1 : least + below(most - least + 1);
                compare("wish" + which + wish + ", " + least + ", " + most + ")",
                        () -> wire.wish(end, option, wish, least, most),
                        () -> model.wish(end, option, wish, least, most));
                break;
            case 1:
                compare("allow" + which + least + ", " + most + ")",
                        () -> nothing(() -> wire.allow(end, option, least, most)),
                        () -> nothing(() -> model.allow(end, option, least, most)));
                break;
            default:
                boolean isRefused = below(3) == 0;
                compare("refuse" + which + isRefused + ")",
                        () -> wire.refuse(end, option, isRefused),
                        () -> model.refuse(end, option, isRefused));
                break;
        }
    }

    private void askSomeQuestion() {
        int end = below(2);
        int option = below(4);
        switch (below(8)) {
            case 0:
                compare("state(" + end + ")", () -> wire.state(end), () -> model.state(end));
                break;
            case 1:
                compare("tries(" + end + ")", () -> wire.tries(end),
                        () -> model.sides[end].tries);
                break;
            case 2:
                compare("asked(" + end + ", " + option + ")", () -> wire.asked(end, option),
                        () -> model.asked(end, option));
                break;
            case 3:
                compare("granted(" + end + ", " + option + ")", () -> wire.granted(end, option),
                        () -> model.granted(end, option));
                break;
            case 4:
                compare("allowed(" + end + ", " + option + ")", () -> wire.allowed(end, option),
                        () -> model.allowed(end, option));
                break;
            case 5:
                compare("waiting(" + end + ")", () -> wire.waiting(end),
                        () -> model.sides[end].line.size());
                break;
            case 6:
                int place = below(15) - 1;
                compare("kindAt(" + end + ", " + place + ")", () -> wire.kindAt(end, place),
                        () -> model.kindAt(end, place));
                break;
            default:
                int letter = below(30) - 1;
                compare("lineChar(" + end + ", " + letter + ")",
                        () -> wire.lineChar(end, letter), () -> model.lineChar(end, letter));
                break;
        }
    }

    private static Object nothing(Runnable call) {
        call.run();
        return "nothing";
    }

    private void compare(String call, Answer ofWire, Answer ofModel) {
        if (!isRight) {
            return;
        }
        String got = answer(ofWire);
        String due = answer(ofModel);
        calls.append(' ').append(call).append(" = ").append(got);
        if (!got.equals(due)) {
            Check.same(calls.toString(), got, due);
            isRight = false;
        }
    }

    private static String answer(Answer answer) {
        try {
            return String.valueOf(answer.give());
        } catch (RuntimeException e) {
            return e.getClass().getName();
        }
    }
}
