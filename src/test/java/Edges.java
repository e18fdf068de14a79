import java.util.Arrays;
import java.util.function.Supplier;

/** Holds the ends of what a call takes, and the calls that it refuses, against the document. */
final class Edges {
    /** A call with one number left open. */
    interface Open {
        int answer(PoolTowels x, int number);
    }

    private static final int NO_ELEMENT = 0;
    private static final int BAD_ARGUMENT = 1;
    private static final int BAD_STATE = 2;
    private static final String[] KINDS = {"NoSuchElementException", "IllegalArgumentException", "IllegalStateException"};

    private Edges() {
    }

    static PoolTowels with(String pool) {
        PoolTowels x = new PoolTowels();
        Feeding.pool(x, pool);
        return x;
    }

    /** Both ends are taken, and what is beyond them by one or by as much as can be is refused. */
    static void within(String call, int least, int most, Supplier<PoolTowels> made, Open open) {
        taken(call, least, made.get(), open);
        taken(call, most, made.get(), open);
        for (int beyond : new int[] {least - 1, most + 1, Integer.MIN_VALUE, Integer.MAX_VALUE}) {
            PoolTowels x = made.get();
            badArgument(call + " with " + beyond, x, () -> open.answer(x, beyond));
        }
    }

    /** All of so many GUESTS or CHAIRS are there, and no other one. */
    static void elements(String call, int many, Supplier<PoolTowels> made, Open open) {
        for (int number = 0; number < many; number++) {
            taken(call, number, made.get(), open);
        }
        noElements(call, many, made, open);
    }

    /** No GUEST or CHAIR from so many on, nor below 0; asked with a wrong argument too, to see which refusal is ahead. */
    static void noElements(String call, int many, Supplier<PoolTowels> made, Open open) {
        for (int other : new int[] {-1, many, 8, Integer.MIN_VALUE, Integer.MAX_VALUE}) {
            if (other < 0 || other >= many) {
                PoolTowels x = made.get();
                noElement(call + " of " + other, x, () -> open.answer(x, other));
            }
        }
    }

    private static void taken(String call, int number, PoolTowels x, Open open) {
        String got = "taken";
        try {
            open.answer(x, number);
        } catch (RuntimeException e) {
            got = "throws." + e.getClass().getSimpleName();
        }
        Checks.same(call + " with " + number, "taken", got);
    }

    static void noElement(String call, PoolTowels x, Checks.Call made) {
        refused(call, NO_ELEMENT, x, made);
    }

    static void badArgument(String call, PoolTowels x, Checks.Call made) {
        refused(call, BAD_ARGUMENT, x, made);
    }

    static void badState(String call, PoolTowels x, Checks.Call made) {
        refused(call, BAD_STATE, x, made);
    }

    /** The call throws, is counted by its reason alone, and all else is as it was. */
    private static void refused(String call, int kind, PoolTowels x, Checks.Call made) {
        int[] due = {x.status(0), x.status(1), x.status(2)};
        due[kind]++;
        String was = all(x);
        String got;
        try {
            got = Integer.toString(made.answer());
        } catch (RuntimeException e) {
            got = "throws." + e.getClass().getSimpleName();
        }
        Checks.same(call, "throws." + KINDS[kind], got);
        int[] counted = {x.status(0), x.status(1), x.status(2)};
        Checks.same(call + ": refusals", Arrays.toString(due), Arrays.toString(counted));
        Checks.same(call + ": all else", was, all(x));
    }

    /** What can be asked for without a refusal, of the POOL, the DAY, the texts, changes and IMAGES. */
    static String all(PoolTowels x) {
        StringBuilder s = new StringBuilder();
        for (int what = 0; what <= 6; what++) {
            s.append(x.told(what)).append(' ');
        }
        for (int c = 0; c < x.told(0); c++) {
            for (int what = 0; what <= 4; what++) {
                s.append(x.chair(c, what)).append(' ');
            }
        }
        for (int g = 0; g < x.told(1); g++) {
            for (int what = 0; what <= 3; what++) {
                s.append(x.guest(g, what)).append(' ');
            }
            for (int what = 0; what <= 7; what++) {
                s.append(x.did(g, what)).append(' ');
            }
            s.append(x.gets(g)).append(' ').append(x.had(g, 5)).append(' ').append(x.fits(g)).append(' ');
        }
        s.append(x.fault()).append(' ').append(x.right()).append(' ');
        return s.append(x.count(0)).append(' ').append(x.count(1)).append(' ').append(x.count(2)).toString();
    }
}
