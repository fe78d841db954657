import java.util.List;
import java.util.function.Supplier;
import java.util.function.ToLongFunction;

/** A call that is refused: it answers as due, and all that can be seen is then as if it had not been made. */
final class Refusal {
    private final Supplier<ClauseBook> made;

    private Refusal(Supplier<ClauseBook> made) {
        this.made = made;
    }

    static Refusal of(Supplier<ClauseBook> made) {
        return new Refusal(made);
    }

    Refusal due(String what, ToLongFunction<ClauseBook> call, long due) {
        ClauseBook asked = made.get();
        Check.due(what, call.applyAsLong(asked), due);
        List<Long> left = Look.at(asked);
        List<Long> untouched = Look.at(made.get());
        Check.holds(what + " leaves all as it was", left.equals(untouched));
        return this;
    }

    /** Where a long is answered, NO and that one, together. */
    Refusal dueLong(String what, ToLongFunction<ClauseBook> call, int due) {
        return due(what, call, -4611686018427387904L + due);
    }

    /** What is just not refused. */
    Refusal taken(String what, ToLongFunction<ClauseBook> call, long due) {
        Check.due(what, call.applyAsLong(made.get()), due);
        return this;
    }
}
