/** Two objects made alike: what a call changed in one of them shows beside the other. */
final class Twins {
    private Twins() {
    }

    /** All that can be seen is the same, but for one finding more (0: none more). */
    static void alike(Sentence s, String call, CoatGoals x, CoatGoals twin, int finding) {
        s.due(call + ", finding()", x.finding(), finding == 0 ? twin.finding() : finding);
        for (int f = 1; f <= 5; f++) {
            s.due(call + ", findings(" + f + ")", x.findings(f), twin.findings(f) + (f == finding ? 1 : 0));
        }
        s.due(call + ", asked()", x.asked(), twin.asked());
        s.due(call + ", upper()", x.upper(), twin.upper());
        s.due(call + ", lower()", x.lower(), twin.lower());
        s.due(call + ", digest()", x.digest(), twin.digest());
        deedsAlike(s, call, x, twin);
        for (int k = 0; k <= 2; k++) {
            int deeds = twin.on(k);
            s.due(call + ", then on(" + k + ")", x.on(k), deeds);
            if (deeds >= 0) {
                s.due(call + ", then on(" + k + "), digest()", x.digest(), twin.digest());
                deedsAlike(s, call + ", then on(" + k + ")", x, twin);
            }
        }
    }

    /** What deeds hold for undoing shows only as they are undone, one by one. */
    private static void deedsAlike(Sentence s, String call, CoatGoals x, CoatGoals twin) {
        for (int d = twin.count(3) - 1; d >= 0; d--) {
            s.due(call + ", then undo(" + d + ")", x.undo(d), twin.undo(d));
            s.due(call + ", then undo(" + d + "), digest()", x.digest(), twin.digest());
        }
    }
}
