import java.util.EnumMap;
import java.util.Map;

/** Long runs of calls, each compared with a second reading of the document, Model. */
public final class ModelTest {
    private static final int RUNS = 3000;
    private static final int CALLS_OF_A_RUN = 150;

    private final Map<Model.State, Integer> entered = new EnumMap<>(Model.State.class);
    private long seed = 20261119;
    private OptionWire wire;
    private Model model;
    private StringBuilder calls;
    private int tickWeight;

    private interface Answer {
        Object give();
    }

    public static void main(String[] args) {
        new ModelTest().run();
        Check.finish();
    }

    private void run() {
        for (int run = 0; run < RUNS; run++) {
            wire = new OptionWire();
            model = new Model();
            calls = new StringBuilder("run " + run + ":");
            tickWeight = 5 + below(30);
            boolean isRight = true;
            for (int call = 0; call < CALLS_OF_A_RUN && isRight; call++) {
                isRight = makeSomeCall();
            }
            Check.same(calls.toString(), Check.standing(wire), model.standing());
            model.entered.forEach((state, times) -> entered.merge(state, times, Integer::sum));
        }
        for (Model.State state : Model.State.values()) {
            Check.same("runs reach " + state, entered.getOrDefault(state, 0) > 100, true);
        }
    }

    private int below(int bound) {
        seed = seed * 6364136223846793005L + 1442695040888963407L;
        return (int) ((seed >>> 33) % bound);
    }

    private boolean makeSomeCall() {
        int end = below(2);
        int choice = below(75 + tickWeight);
        if (choice < 40) {
            return compare("deliver(" + end + ")", () -> wire.deliver(end),
                    () -> model.deliver(end));
        }
        if (choice < 44) {
            return compare("lose(" + end + ")", () -> wire.lose(end), () -> model.lose(end));
        }
        if (choice < 46) {
            return compare("close(" + end + ")", () -> nothing(() -> wire.close(end)),
                    () -> nothing(() -> model.close(end)));
        }
        if (choice < 58) {
            int mark = 1 + below(3);
            return compare("open(" + end + ", " + mark + ")",
                    () -> nothing(() -> wire.open(end, mark)),
                    () -> nothing(() -> model.open(end, mark)));
        }
        if (choice < 61) {
            boolean isLooped = below(3) == 0;
            return compare("loop(" + isLooped + ")", () -> wire.loop(isLooped), () -> {
                boolean before = model.isLooped;
                model.isLooped = isLooped;
                return before;
            });
        }
        if (choice < 75) {
            return setSomeWant(end, below(4));
        }
        return compare("tick()", wire::tick, model::tick);
    }

    private boolean setSomeWant(int end, int option) {
        int least = below(3) * 20 + below(2);
        int most = Math.min(100, least + below(4) * 20);
        switch (below(3)) {
            case 0:
                int wish = below(4) == 0 ? -1 : least + below(most - least + 1);
                return compare("wish(" + end + ", " + option + ", " + wish + ", " + least + ", "
                        + most + ")", () -> wire.wish(end, option, wish, least, most),
                        () -> model.wish(end, option, wish, least, most));
            case 1:
                return compare("allow(" + end + ", " + option + ", " + least + ", " + most + ")",
                        () -> nothing(() -> wire.allow(end, option, least, most)),
                        () -> nothing(() -> model.allow(end, option, least, most)));
            default:
                boolean isRefused = below(3) == 0;
                return compare("refuse(" + end + ", " + option + ", " + isRefused + ")",
                        () -> wire.refuse(end, option, isRefused),
                        () -> model.refuse(end, option, isRefused));
        }
    }

    private static Object nothing(Runnable call) {
        call.run();
        return "nothing";
    }

    private boolean compare(String call, Answer ofWire, Answer ofModel) {
        String got = answer(ofWire);
        String due = answer(ofModel);
        calls.append(' ').append(call).append(" = ").append(got);
        if (got.equals(due) && Check.standing(wire).equals(model.standing())) {
            return true;
        }
        Check.same(calls.toString(), got, due);
        return false;
    }

    private static String answer(Answer answer) {
        try {
            return String.valueOf(answer.give());
        } catch (IllegalStateException | java.util.NoSuchElementException e) {
            return e.getClass().getName();
        }
    }
}
