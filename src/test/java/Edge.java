import java.util.function.IntToLongFunction;

/** Numbers just beyond a bound, and as far beyond it as an int goes. */
final class Edge {
    private Edge() {
    }

    static void below(String call, IntToLongFunction f, int least, long want) {
        Due.is(call + " of " + (least - 1), f.applyAsLong(least - 1), want);
        Due.is(call + " of the least int", f.applyAsLong(Integer.MIN_VALUE), want);
    }

    static void above(String call, IntToLongFunction f, int most, long want) {
        Due.is(call + " of " + (most + 1), f.applyAsLong(most + 1), want);
        Due.is(call + " of the greatest int", f.applyAsLong(Integer.MAX_VALUE), want);
    }

    /** Numbers 0, 1, .. are given to so many; no other number is anybody's. */
    static void others(String call, IntToLongFunction f, int given, long want) {
        below(call, f, 0, want);
        above(call, f, given - 1, want);
    }

    /** As many calls as there is room for, each answered by the number behind the one ahead of it. */
    static void fill(String call, IntToLongFunction f, int room, int firstAnswer) {
        for (int i = 0; i < room; i++) {
            Due.is(call + ", " + (i + 1) + " of " + room, f.applyAsLong(i), firstAnswer + i);
        }
    }
}
