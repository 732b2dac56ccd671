import java.util.function.Consumer;
import java.util.function.Supplier;

/** Makes objects, always anew, in the states that the tests of boundary cases begin from. */
final class Ready {
    /** A new object: without rows, texts, players. */
    static final Supplier<CoatGoals> NEW = CoatGoals::new;

    private Ready() {
    }

    static Supplier<CoatGoals> republic(String text) {
        return () -> Checks.with(text);
    }

    static Supplier<CoatGoals> then(Supplier<CoatGoals> ready, Consumer<CoatGoals> more) {
        return () -> {
            CoatGoals x = ready.get();
            more.accept(x);
            return x;
        };
    }

    /** A new object with a row of this size in each place but the last. */
    static Supplier<CoatGoals> rows(int size) {
        return then(NEW, x -> {
            for (int r = 0; r < 5; r++) {
                x.row(r, size);
            }
        });
    }

    /** So many deeds of all sorts, all of them kept in place 1 as well. */
    static Supplier<CoatGoals> deeds(String text, int many) {
        return then(republic(text), x -> {
            for (int d = 0; d < many; d++) {
                deed(x, d);
            }
            x.keep(1);
        });
    }

    private static void deed(CoatGoals x, int d) {
        switch (d % 4) {
            case 0:
                x.term();
                break;
            case 1:
                x.rain(d / 4 % 2 == 0 ? 1 : 0);
                break;
            case 2:
                x.stand(0, d / 4);
                break;
            default:
                x.nudge(3, d / 4 % 2 == 0 ? -1 : 1);
                break;
        }
    }
}
