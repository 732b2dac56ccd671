import java.lang.management.ManagementFactory;
import java.util.Map;
import java.util.Set;
import java.util.TreeMap;
import java.util.TreeSet;
import java.util.function.LongSupplier;

/**
 * All calls of one run live in one room: what an object takes when it is made, and what each call takes when it is
 * made over and over (with others that make it possible again: 512 in all at most). Told in bytes: an object takes
 * 16 of them at least.
 */
public final class RoomTest {
    private static final int ROUNDS = 150;
    private static final int BYTES_NEW = 20000, BYTES_A_ROUND = 64;

    private RoomTest() {
    }

    public static void main(String[] args) {
        if (!(ManagementFactory.getThreadMXBean() instanceof com.sun.management.ThreadMXBean bean)
            || !bean.isThreadAllocatedMemorySupported()) {
            System.out.println("this machine does not tell what is taken: nothing is looked at");
            return;
        }
        bean.setThreadAllocatedMemoryEnabled(true);
        LongSupplier taken = () -> bean.getThreadAllocatedBytes(Thread.currentThread().getId());
        newObjects(taken);
        Map<String, LongSupplier> dearest = dearest(full());
        allAreThere(dearest.keySet());
        for (String name : dearest.keySet()) {
            calls(taken, name);
        }
        Checks.finish();
    }

    private static void within(String what, long bytes, long most) {
        Checks.due(what + " took " + bytes + " bytes, of " + most + " at most: too many", bytes > most ? 1 : 0, 0);
    }

    private static void newObjects(LongSupplier taken) {
        CoatGoals warm = new CoatGoals();
        long before = taken.getAsLong();
        CoatGoals x = new CoatGoals();
        long after = taken.getAsLong();
        Checks.due("both are new", x.count(0) + warm.count(0), 0);
        within("a new object", after - before, BYTES_NEW);
    }

    private static void calls(LongSupplier taken, String name) {
        LongSupplier call = dearest(full()).get(name);
        // What the machine itself makes when it first comes to a call is not the program's.
        call.getAsLong();
        long before = taken.getAsLong();
        long answers = 0;
        for (int round = 1; round < ROUNDS; round++) {
            answers += call.getAsLong();
        }
        long after = taken.getAsLong();
        Checks.due(name + " is answered", answers != Long.MIN_VALUE ? 1 : 0, 1);
        within(name + ", " + ROUNDS + " times,", after - before, (long) ROUNDS * BYTES_A_ROUND);
    }

    /** Six players, 20 deeds, all kept; full rows and texts but row 0, of eight pairs. */
    private static CoatGoals full() {
        CoatGoals x = Checks.with("g1c05c12c03c15p0094w1057w0106h1113t0081p1139");
        x.lots(20, 4711);
        for (int k = 0; k <= 2; k++) {
            x.keep(k);
        }
        x.row(0, 16);
        for (int r = 1; r <= 5; r++) {
            x.row(r, 40);
        }
        for (int t = 0; t <= 2; t++) {
            x.text(t, 60);
        }
        return x;
    }

    private static Map<String, LongSupplier> dearest(CoatGoals x) {
        Map<String, LongSupplier> calls = new TreeMap<>();
        calls.put("row", () -> x.row(5, 40));
        calls.put("lay", () -> x.lay(5, 39, 7));
        calls.put("at", () -> x.at(5, 39));
        calls.put("tear", () -> x.tear(6) + x.row(4, 40) + x.tear(4));
        calls.put("copy", () -> x.copy(5, 0, 5, 1, 39));
        calls.put("mean", () -> x.mean(5));
        calls.put("text", () -> x.text(0, 60));
        calls.put("put", () -> x.put(0, 59, 300));
        calls.put("fault", () -> x.fault(3));
        calls.put("republic", () -> x.republic(3));
        calls.put("player", () -> x.player(5, 5));
        calls.put("mark", () -> x.mark(3, 3));
        calls.put("term", () -> x.term() + x.undo(20));
        calls.put("nudge", () -> x.nudge(3, 1) + x.undo(20));
        calls.put("rain", () -> x.rain(1 - x.count(4)) + x.undo(20));
        calls.put("stand", () -> x.stand(0, x.count(3) % 20) + x.undo(20));
        calls.put("undo", () -> x.undo(0) + x.on(0));
        calls.put("keep", () -> x.keep(2));
        calls.put("on", () -> x.on(1));
        calls.put("lands", () -> x.lands(4, 20, 1));
        calls.put("in", () -> x.in(1, 20));
        calls.put("seen", () -> x.seen(3));
        calls.put("lead", () -> x.lead(40));
        calls.put("amend", () -> x.amend(1, 6, 3) + x.amend(0, 0, 3));
        calls.put("coats", () -> x.coats(1, 0));
        calls.put("sure", () -> x.sure(1, 0));
        calls.put("next", () -> x.next(0, 0));
        calls.put("stood", () -> x.stood(5, 0));
        calls.put("kinds", () -> x.kinds(5, 0));
        calls.put("sets", () -> x.sets(20));
        calls.put("surely", () -> x.surely(20));
        calls.put("duel", () -> x.duel(2));
        calls.put("odds", () -> x.odds(1, 5));
        calls.put("mid", () -> x.mid(5));
        calls.put("lots", () -> x.lots(20, 1) + x.undo(20));
        calls.put("asked", x::asked);
        calls.put("upper", x::upper);
        calls.put("lower", x::lower);
        calls.put("count", () -> x.count(12));
        calls.put("finding", x::finding);
        calls.put("findings", () -> x.findings(5));
        calls.put("digest", x::digest);
        return calls;
    }

    private static void allAreThere(Set<String> names) {
        Set<String> face = new TreeSet<>();
        for (java.lang.reflect.Method m : CoatGoals.class.getDeclaredMethods()) {
            if (java.lang.reflect.Modifier.isPublic(m.getModifiers())) {
                face.add(m.getName());
            }
        }
        Checks.due("each call of the face is looked at", face.equals(names) ? 1 : 0, 1);
    }
}
