import java.util.function.Consumer;
import java.util.function.Supplier;

/** What the tests look at: answers, exceptions, and that a call changed nothing. */
final class Expect {
    private static int wrong = 0;

    private Expect() {
    }

    static void same(String what, long got, long due) {
        if (got != due) {
            tell(what + " answered " + got + ", due is " + due);
        }
    }

    static void same(String what, String got, String due) {
        if (!got.equals(due)) {
            tell(what + " gave " + got + ", due is " + due);
        }
    }

    static void yes(String what, boolean holds) {
        if (!holds) {
            tell(what + " does not hold");
        }
    }

    /**
     * The call must throw just this kind, and leave the vault as it was. Each call has a vault of its
     * own, since one object is good for 512 calls.
     */
    static void refused(Supplier<FrameVault> maker, String what, Class<? extends RuntimeException> kind,
            Consumer<FrameVault> call) {
        FrameVault vault = maker.get();
        String before = stateOf(vault);
        Class<?> got = null;
        try {
            call.accept(vault);
        } catch (RuntimeException e) {
            got = e.getClass();
        }
        if (got != kind) {
            tell(what + " threw " + (got == null ? "nothing" : got.getSimpleName())
                    + ", due is " + kind.getSimpleName());
        }
        same(what + ", refused: the state", stateOf(vault), before);
    }

    /** All that can be seen of a vault, in few calls: use it with small shapes. */
    static String stateOf(FrameVault vault) {
        StringBuilder state = new StringBuilder();
        state.append("file ").append(vault.size()).append(' ').append(vault.check(0, vault.size()));
        for (int what = 1; what <= 3; what++) {
            state.append(' ').append(vault.about(what));
        }
        for (int frame = 0; frame < vault.about(0); frame++) {
            state.append(" at ").append(vault.time(frame)).append(':');
            for (int plane = 0; plane < vault.about(3); plane++) {
                for (int y = 0; y < vault.about(2); y++) {
                    for (int x = 0; x < vault.about(1); x++) {
                        state.append(' ').append(vault.get(frame, plane, x, y));
                    }
                }
            }
        }
        return state.toString();
    }

    private static void tell(String what) {
        wrong++;
        if (wrong <= 20) {
            System.out.println(what);
        }
    }

    /** Ends the test: with exit code 1 if anything was not as due. */
    static void end() {
        System.out.println(wrong == 0 ? "all as due" : wrong + " not as due");
        if (wrong != 0) {
            System.exit(1);
        }
    }
}
