import java.util.function.Supplier;
import java.util.function.ToIntFunction;

/**
 * The edges of a range, and calls that are refused. For a refused call two colonies are made the same
 * way, the call is made on one of them, and then all that can be found out of both is compared: also
 * what only undo(), a minute or load() tells. Each question goes to a colony of its own, since an
 * object is used for at most 512 calls.
 */
final class Edges {
    private static final int MOST_STATES = 6;

    private Edges() {
    }

    interface CallWithValue {
        int on(ThermostatColony colony, int value);
    }

    /** The last values that are allowed and the first ones that are not, on both sides of the range. */
    static void range(String name, int least, int most, Supplier<ThermostatColony> made, CallWithValue call) {
        for (int value : new int[] {least, most}) {
            int answer = call.on(made.get(), value);
            Check.holds(name + " allows " + value + ", answers " + answer, !isError(answer));
        }
        for (int value : new int[] {least - 1, most + 1, Integer.MIN_VALUE, Integer.MAX_VALUE}) {
            refused(name + " with " + value, Colonies.INVALID, made, colony -> call.on(colony, value));
        }
    }

    /** A call that answers the error code, and changes nothing. */
    static void refused(String name, int code, Supplier<ThermostatColony> made,
            ToIntFunction<ThermostatColony> call) {
        Check.due(name, call.applyAsInt(made.get()), code);
        changesNothing(name, made, call);
    }

    static void changesNothing(String name, Supplier<ThermostatColony> made, ToIntFunction<ThermostatColony> call) {
        Check.holds(name + " changes nothing", trace(made, colony -> 0).equals(trace(made, call)));
    }

    static boolean isError(int answer) {
        return answer == Colonies.INVALID || answer == Colonies.ILLEGAL || answer == Colonies.FULL;
    }

    private static String trace(Supplier<ThermostatColony> made, ToIntFunction<ThermostatColony> call) {
        StringBuilder all = new StringBuilder();
        for (int steps = 0; steps <= MOST_STATES + 1; steps++) {
            all.append(Colonies.portrait(after(made, call, steps, all)));
            // What a room can hold, heat and lose is seen in minutes alone.
            ThermostatColony later = after(made, call, steps, all);
            all.append("pass ").append(later.pass(20)).append('\n').append(Colonies.portrait(later));
        }
        ThermostatColony loaded = after(made, call, 0, all);
        all.append("load ").append(loaded.load()).append('\n').append(Colonies.portrait(loaded));
        return all.toString();
    }

    private static ThermostatColony after(Supplier<ThermostatColony> made, ToIntFunction<ThermostatColony> call,
            int steps, StringBuilder all) {
        ThermostatColony colony = made.get();
        call.applyAsInt(colony);
        for (int step = 0; step < steps; step++) {
            all.append("undo ").append(colony.undo()).append('\n');
        }
        return colony;
    }
}
