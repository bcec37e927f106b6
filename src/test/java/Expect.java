import java.util.function.Consumer;
import java.util.function.Supplier;
import java.util.function.ToLongFunction;

/** What the tests look at: answers, exceptions, and that a call changed nothing. */
final class Expect {
    private static int wrong = 0;
    private static String sentence = "";

    private Expect() {
    }

    /** The test of one sentence of the document; what is not as due is told with its words. */
    static void sentence(String where, String words, Runnable test) {
        sentence = where + " (" + words + "): ";
        try {
            test.run();
        } catch (RuntimeException e) {
            tell("ended with " + e);
        }
        sentence = "";
    }

    static void same(String what, long got, long due) {
        if (got != due) {
            tell(what + " answered " + got + ", due is " + due);
        }
    }

    static void same(String what, String got, String due) {
        if (!got.equals(due)) {
            tell(what + " gave " + got + ", due is " + due);
        }
    }

    static void yes(String what, boolean holds) {
        if (!holds) {
            tell(what + " does not hold");
        }
    }

    /**
     * The call must throw just this kind, and leave the vault as it was. Each call has a vault of its
     * own, since one object is good for 512 calls.
     */
    static void refused(Supplier<FrameVault> maker, String what, Class<? extends RuntimeException> kind,
            Consumer<FrameVault> call) {
        FrameVault vault = maker.get();
        String before = stateOf(vault);
        Class<?> got = null;
        try {
            call.accept(vault);
        } catch (RuntimeException e) {
            got = e.getClass();
        }
        if (got != kind) {
            tell(what + " threw " + (got == null ? "nothing" : got.getSimpleName())
                    + ", due is " + kind.getSimpleName());
        }
        same(what + ", refused: the state", stateOf(vault), before);
    }

    /** The call must be taken, with this answer. */
    static void taken(Supplier<FrameVault> maker, String what, long due, ToLongFunction<FrameVault> call) {
        try {
            same(what, call.applyAsLong(maker.get()), due);
        } catch (RuntimeException e) {
            tell(what + " threw " + e.getClass().getSimpleName() + ", due is " + due);
        }
    }

    /** The call must be taken just if it may be, and refused in this way otherwise. */
    static void takenIf(boolean may, Supplier<FrameVault> maker, String what, Class<? extends RuntimeException> kind,
            Consumer<FrameVault> call) {
        if (!may) {
            refused(maker, what, kind, call);
            return;
        }
        taken(maker, what, 0, vault -> {
            call.accept(vault);
            return 0;
        });
    }

    /** All that can be seen of a vault, in few calls: use it with small shapes. */
    static String stateOf(FrameVault vault) {
        int frames = vault.about(0);
        int width = vault.about(1);
        int height = vault.about(2);
        int planes = vault.about(3);
        StringBuilder state = new StringBuilder();
        state.append("file ").append(vault.size()).append(' ').append(vault.check(0, vault.size()));
        state.append(' ').append(width).append(' ').append(height).append(' ').append(planes);
        for (int frame = 0; frame < frames; frame++) {
            state.append(" at ").append(vault.time(frame)).append(':');
            for (int place = 0; place < planes * height * width; place++) {
                int sample = vault.get(frame, place / (height * width), place % width, place / width % height);
                state.append(' ').append(sample);
            }
        }
        return state.toString();
    }

    private static void tell(String what) {
        wrong++;
        if (wrong <= 20) {
            System.out.println(sentence + what);
        }
    }

    /** Ends the test: with exit code 1 if anything was not as due. */
    static void end() {
        System.out.println(wrong == 0 ? "all as due" : wrong + " not as due");
        if (wrong != 0) {
            System.exit(1);
        }
    }
}
