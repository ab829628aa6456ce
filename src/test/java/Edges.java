import java.util.List;
import java.util.function.IntUnaryOperator;
import java.util.function.Supplier;
import java.util.function.ToIntFunction;

/**
 * Edges of what calls take. Each question is asked of an object made anew by a state, so that a call that is taken
 * does not bear on the next question and no object comes to more than 512 calls.
 */
final class Edges {
    /** Below all answers, above all refusals. */
    private static final int LEAST_ANSWER = -1000;

    private final Check check;

    Edges(Check check) {
        this.check = check;
    }

    /** A call with one of its numbers left open. */
    interface NumberCall {
        int on(LooksByMany x, int number);
    }

    /** From least to most a number is taken; those beside these, and the farthest ones, are refused. */
    void bounds(String what, Supplier<LooksByMany> state, int least, int most, int refusal, NumberCall call) {
        for (int number : new int[] {least, most}) {
            int answer = call.on(state.get(), number);
            check.isTrue(what + " takes " + number + ", and not: " + answer, answer > LEAST_ANSWER);
        }
        for (int number : beside(least, most)) {
            refused(what + " of " + number, state, refusal, x -> call.on(x, number));
        }
    }

    private static int[] beside(int least, int most) {
        // beyond the greatest whole number there is none that could be refused
        if (most == Integer.MAX_VALUE) {
            return new int[] {Integer.MIN_VALUE, least - 1};
        }
        return new int[] {Integer.MIN_VALUE, least - 1, most + 1, Integer.MAX_VALUE};
    }

    /** The call is refused by this number, and of two like objects that which refused answers on as the other. */
    void refused(String what, Supplier<LooksByMany> state, int refusal, ToIntFunction<LooksByMany> call) {
        for (int part = 0; part < Telling.PARTS; part++) {
            LooksByMany x = state.get();
            LooksByMany untouched = state.get();
            check.due(what, call.applyAsInt(x), refusal);
            List<Integer> after = Telling.of(x, part);
            check.isTrue(what + " changes nothing (part " + part + ")", after.equals(Telling.of(untouched, part)));
        }
    }

    /** Each number from least to most answers as due, in this order. */
    void answers(String what, int least, IntUnaryOperator call, int... due) {
        for (int i = 0; i < due.length; i++) {
            check.due(what + " of " + (least + i), call.applyAsInt(least + i), due[i]);
        }
    }
}
