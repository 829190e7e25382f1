import java.util.function.Consumer;
import java.util.function.ToIntFunction;

// A call, and what it answers after some calls.
record Call(String name, int answer, Consumer<TableShares> ahead, ToIntFunction<TableShares> call) {
    // The call on an object of which every look tells something.
    Call(String name, int answer, ToIntFunction<TableShares> call) {
        this(name, answer, Seen::everything, call);
    }

    int onNew() {
        TableShares x = new TableShares();
        ahead.accept(x);
        return call.applyAsInt(x);
    }

    // What is told otherwise by it.
    String changes() {
        return Seen.changed(ahead, call::applyAsInt);
    }
}
