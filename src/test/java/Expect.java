import java.util.Objects;
import java.util.function.Consumer;
import java.util.function.Supplier;

/** Counts and prints what is not as it is due; a test's main ends with {@link #end}. */
final class Expect {
    private static int wrong = 0;

    private Expect() {
    }

    interface Call {
        void run();
    }

    static void same(String what, Object got, Object due) {
        if (!Objects.equals(got, due)) {
            wrong++;
            System.out.println(what + " answered " + got + ", due is " + due);
        }
    }

    /** The exception is of just this class, so that none which the machine throws passes for it. */
    static void refused(String what, Class<? extends RuntimeException> due, Call call) {
        same(what, thrownBy(call), due);
    }

    /** As {@link #refused}, and the order answers as before; the digest holds nearly all it can be asked. */
    static void refusedInVain(String what, SaltOrder order, Class<? extends RuntimeException> due, Call call) {
        long before = order.digest();
        refused(what, due, call);
        same("digest() behind the refused " + what, order.digest(), before);
    }

    /**
     * The call is refused by a new order, which then answers everything as one that was not called.
     * Both orders are new, so that neither comes near its 512th call.
     */
    static void refusedByNew(String what, Supplier<SaltOrder> made, Class<? extends RuntimeException> due,
            Consumer<SaltOrder> call) {
        SaltOrder called = made.get();
        refused(what, due, () -> call.accept(called));
        same("all answers behind the refused " + what, Answers.of(called), Answers.of(made.get()));
    }

    static Class<?> thrownBy(Call call) {
        try {
            call.run();
            return null;
        } catch (RuntimeException e) {
            return e.getClass();
        }
    }

    static void end() {
        if (wrong > 0) {
            System.out.println(wrong + " answers are not as they are due");
            System.exit(1);
        }
    }
}
