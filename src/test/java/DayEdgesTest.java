import java.util.function.Supplier;

/** The boundary cases of promises 7 to 20, and of the Terms' DAYS: a method for each sentence, which stands above it. */
public final class DayEdgesTest {
    private static final String TWO = "chair 3 1;chair 2 4;guest 6 8 14 5;guest 9 10 13 0;";

    private DayEdgesTest() {
    }

    public static void main(String[] args) {
        onDay0();
        worthFromLaterF();
        whoHasTLeaves();
        waitsNoMore();
        goesInHalvesThatGDivides();
        neverBy0();
        longAgoOrMore();
        hasLainSince();
        beginsToWaitInF();
        fIsOver();
        offAheadOfComing();
        comesByNumber();
        hasLeftByThen();
        ofAlikeChairsTheLeast();
        newcomersAhead();
        inTheOrderOfHalves();
        ofOneByNumber();
        liesFromF();
        netAheadOfU();
        netHireForEach();
        idleBehindD();
        lastIfNone();
        firstOfAll();
        gotLainOff();
        told();
        chair();
        guest();
        day();
        did();
        towel();
        lies();
        waits();
        sums();
        worth();
        would();
        round();
        daysByL();
        roundOfTheFirst200();
        roundNeverByDay();
        out();
        had();
        Checks.end();
    }

    private static Supplier<PoolTowels> two() {
        return () -> Edges.with(TWO);
    }

    private static void did(PoolTowels x, int guest, int... due) {
        for (int what = 0; what < due.length; what++) {
            int w = what;
            Checks.due("did(" + guest + ", " + w + ")", due[w], () -> x.did(guest, w));
        }
    }

    /** Whose towel is on CHAIR 0, from HALF 0 on; -1 behind them. */
    private static void towels(PoolTowels x, int... due) {
        for (int h = 0; h < 24; h++) {
            int half = h;
            Checks.due("towel(0, " + h + ")", h < due.length ? due[h] : -1, () -> x.towel(0, half));
        }
    }

    private static void lain(PoolTowels x, int... due) {
        for (int h = 0; h < 24; h++) {
            int half = h;
            Checks.due("lies(0, " + h + ")", h < due.length ? due[h] : -1, () -> x.lies(0, half));
        }
    }

    private static void waiting(PoolTowels x, int... due) {
        for (int h = 0; h < 24; h++) {
            int half = h;
            Checks.due("waits(" + h + ")", h < due.length ? due[h] : 0, () -> x.waits(half));
        }
    }

    // Terms: "On DAY 0 each GUEST comes as he wakes; on others by his HABIT, by what was on the DAY ahead."
    private static void onDay0() {
        PoolTowels x = Edges.with("chair 1 1;guest 23 1 23 0;guest 0 1 2 0;");
        Feeding.habit(x, 0, "mine - day");
        Feeding.habit(x, 1, "mine + day");
        int[][] due = {{23, 0}, {22, 1}, {20, 3}, {17, 6}, {13, 10}, {8, 15}, {2, 21}, {0, 23}, {0, 23}};
        for (int d = 0; d < due.length; d++) {
            x.day(d);
            did(x, 0, due[d][0]);
            did(x, 1, due[d][1]);
        }
        x.day(0);
        did(x, 0, 23);
    }

    // Terms: "its worths in all HALVES from that one (or F, if it is later) to T less 1"
    private static void worthFromLaterF() {
        PoolTowels x = Edges.with("chair 1 1;guest 0 5 9 0;");
        int[] due = {4, 4, 4, 4, 4, 4, 3, 2, 1, 0, 0};
        for (int h = 0; h < 24; h++) {
            int half = h;
            Checks.due("worth from " + h, h < due.length ? due[h] : 0, () -> x.worth(0, 0, half));
        }
        // what a CHAIR is worth to him counts from the HALF in which he takes it
        did(Edges.with("chair 9 1;chair 0 4;guest 10 10 17 0;"), 0, 10, 0, 7, 23);
        did(Edges.with("chair 9 1;chair 0 4;guest 11 10 17 0;"), 0, 11, 1, 6, 20);
        did(Edges.with("chair 9 1;chair 0 4;guest 0 10 17 0;"), 0, 0, 0, 7, 23);
    }

    // Terms: "(a) who has T leaves: his CHAIR is free", ahead of who comes in that HALF
    private static void whoHasTLeaves() {
        PoolTowels x = Edges.with("chair 1 1;guest 0 0 5 0;guest 5 5 8 0;");
        towels(x, 0, 0, 0, 0, 0, 1, 1, 1);
        did(x, 1, 5, 0, 3, 3, 3, 1, 0, 0);
        // and ahead of who waits
        PoolTowels y = Edges.with("chair 1 1;guest 0 0 5 0;guest 3 3 8 0;");
        towels(y, 0, 0, 0, 0, 0, 1, 1, 1);
        did(y, 1, 3, 0, 3, 3, 3, 1, 0, 2);
        // the last HALF in which one can lie is 22, the first is 0
        PoolTowels z = Edges.with("chair 1 1;guest 0 0 23 0;");
        did(z, 0, 0, 0, 23, 23, 23, 1, 0, 0);
        Checks.due("in 0", 0, () -> z.lies(0, 0));
        Checks.due("in 22", 0, () -> z.lies(0, 22));
        Checks.due("in 23 all have left", -1, () -> z.towel(0, 23));
    }

    // Terms: "(a) .. he waits no more"
    private static void waitsNoMore() {
        PoolTowels x = Edges.with("chair 1 1;guest 0 0 9 0;guest 1 1 4 0;");
        waiting(x, 0, 2, 2, 2);
        did(x, 1, 1, -1, 0, 0, 0, 0, 0, 3);
        // a CHAIR that is free in his T is none for him
        PoolTowels y = Edges.with("chair 1 1;guest 0 0 4 0;guest 1 1 4 0;");
        towels(y, 0, 0, 0, 0);
        did(y, 1, 1, -1, 0, 0, 0, 0, 0, 3);
        // he who stands first in the row leaves, the next one goes ahead
        PoolTowels z = Edges.with("chair 1 1;guest 0 0 6 0;guest 1 1 4 0;guest 2 2 9 0;");
        waiting(z, 0, 2, 6, 6, 4, 4);
        towels(z, 0, 0, 0, 0, 0, 0, 2, 2, 2);
        PoolTowels none = Edges.with("guest 0 0 23 0;");
        waiting(none, 1, 1, 1, 1, 1, 1, 1, 1, 1, 1, 1, 1, 1, 1, 1, 1, 1, 1, 1, 1, 1, 1, 1);
        did(none, 0, 0, -1, 0, 0, 0, 0, 0, 23);
    }

    // Terms: "the hotel goes by in HALVES that G divides, but 0"
    private static void goesInHalvesThatGDivides() {
        for (int g = 1; g <= 23; g++) {
            for (int u = 0; u <= 21; u++) {
                // laid in u, it is off in the first HALF behind u that G divides, if that is not behind F, and taken again in F
                int off = (u / g + 1) * g;
                boolean isOff = off <= 22;
                PoolTowels x = Edges.with("chair 1 1;guest " + u + " 22 23 0;off 1;goes " + g + ";");
                Checks.due("goes " + g + ", laid in " + u, isOff ? 1 : 0, () -> x.did(0, 6));
                Checks.due("IDLE by " + g + ", laid in " + u, (isOff ? off : 22) - u, () -> x.chair(0, 3));
                Checks.due("lain by " + g + ", laid in " + u, 1, () -> x.did(0, 2));
            }
        }
        // in 0 nobody goes by: what is laid in 0 by one who has it in 0 stays
        did(Edges.with("chair 1 1;guest 0 0 9 0;goes 23;off 1;"), 0, 0, 0, 9, 9, 9, 1, 0, 0);
        did(Edges.with("chair 1 1;guest 0 1 9 0;goes 23;off 1;"), 0, 0, 0, 8, 8, 8, 1, 0, 0);
    }

    // Terms: "0: never"
    private static void neverBy0() {
        PoolTowels x = Edges.with("chair 1 1;guest 0 22 23 0;goes 0;off 1;");
        did(x, 0, 0, 0, 1, 1, 1, 1, 0, 0);
        Checks.due("IDLE", 22, () -> x.chair(0, 3));
        did(Edges.with("chair 1 1;guest 0 22 23 0;off 1;"), 0, 0, 0, 1, 1, 1, 1, 0, 0);
    }

    // Terms: "a towel whose HALF of laying .. is L HALVES ago or more is taken off"
    private static void longAgoOrMore() {
        for (int l = 1; l <= 23; l++) {
            for (int u = 0; u <= 10; u++) {
                // the hotel goes by in 11 and 22
                int due = 11 - u >= l ? 1 : 22 - u >= l ? 1 : 0;
                int idle = 11 - u >= l ? 11 - u : 22 - u;
                PoolTowels x = Edges.with("chair 1 1;guest " + u + " 22 23 0;goes 11;off " + l + ";");
                Checks.due("off " + l + ", laid in " + u, due, () -> x.did(0, 6));
                Checks.due("IDLE by " + l + ", laid in " + u, idle, () -> x.sums(2));
            }
        }
        // by L 4 in 7, four HALVES ago; by 5 not before 14
        towels(Edges.with("chair 1 1;guest 3 20 21 0;goes 7;off 4;"),
            -1, -1, -1, 0, 0, 0, 0, -1, -1, -1, -1, -1, -1, -1, -1, -1, -1, -1, -1, -1, 0);
        towels(Edges.with("chair 1 1;guest 3 20 21 0;goes 7;off 5;"),
            -1, -1, -1, 0, 0, 0, 0, 0, 0, 0, 0, 0, 0, 0, -1, -1, -1, -1, -1, -1, 0);
        // a towel laid by one who waited is as old as his taking, not as his coming
        PoolTowels x = Edges.with("chair 1 1;guest 0 0 5 0;guest 1 9 12 0;goes 6;off 2;");
        did(x, 1, 1, 0, 3, 3, 3, 1, 0, 4);
        PoolTowels y = Edges.with("chair 1 1;guest 0 0 5 0;guest 1 9 12 0;goes 7;off 2;");
        did(y, 1, 1, 0, 3, 3, 3, 2, 1, 4);
        // all that are old enough are taken off at one time
        PoolTowels all = Edges.with("chair 1 1;".repeat(8) + "guest 0 22 23 0;".repeat(8) + "goes 5;");
        Checks.due("eight towels", 8, () -> all.sums(5));
        Checks.due("IDLE of eight", 40, () -> all.sums(2));
        PoolTowels some = Edges.with("chair 1 1;".repeat(3) + "guest 2 22 23 0;guest 3 22 23 0;guest 4 22 23 0;goes 5;off 2;");
        did(some, 0, 2, 0, 1, 1, 1, 2, 1, 0);
        did(some, 1, 3, 1, 1, 1, 1, 2, 1, 0);
        did(some, 2, 4, 2, 1, 1, 1, 2, 1, 0);
        Checks.due("the third not before 10", 6, () -> some.chair(2, 3));
        Checks.due("the second in 5", 2, () -> some.chair(1, 3));
    }

    // Terms: "(or, if he has lain since, the one behind the last in which he lay)"
    private static void hasLainSince() {
        did(Edges.with("chair 1 1;guest 6 6 23 0;goes 1;off 1;"), 0, 6, 0, 17, 17, 17, 1, 0, 0);
        // laid in 5, off in 6 as F begins, taken again in 6; then he lies on it till he goes
        did(Edges.with("chair 1 1;guest 5 6 23 0;goes 1;off 1;"), 0, 5, 0, 17, 17, 17, 2, 1, 0);
        // laid in 0, nine HALVES ago in 9, but he has lain since 8
        did(Edges.with("chair 1 1;guest 0 8 20 0;goes 9;off 2;"), 0, 0, 0, 12, 12, 12, 1, 0, 0);
    }

    // Terms: "he whose it was begins to wait in HALF F (as F begins ..)"
    private static void beginsToWaitInF() {
        PoolTowels x = Edges.with("chair 1 1;guest 2 10 16 0;guest 7 7 14 0;goes 7;off 2;");
        towels(x, -1, -1, 0, 0, 0, 0, 0, 1, 1, 1, 1, 1, 1, 1, 0, 0);
        waiting(x, 0, 0, 0, 0, 0, 0, 0, 0, 0, 0, 1, 1, 1, 1);
        did(x, 0, 2, 0, 2, 2, 2, 2, 1, 4);
        // a CHAIR that is free ahead of F is none for him
        PoolTowels y = Edges.with("chair 1 1;guest 2 10 16 0;guest 7 7 9 0;goes 7;off 2;");
        towels(y, -1, -1, 0, 0, 0, 0, 0, 1, 1, -1, 0, 0, 0, 0, 0, 0);
        waiting(y);
        // nor is another one
        PoolTowels z = Edges.with("chair 1 1;chair 1 1;guest 2 10 16 0;goes 7;off 2;");
        towels(z, -1, -1, 0, 0, 0, 0, 0, -1, -1, -1, 0, 0, 0, 0, 0, 0);
        Checks.due("the other one stays free", 0, () -> z.chair(1, 4));
        // he waits in F even if another one has come in F ahead of him
        PoolTowels last = Edges.with("chair 1 1;guest 2 10 12 0;guest 10 10 14 0;goes 7;off 2;");
        waiting(last, 0, 0, 0, 0, 0, 0, 0, 0, 0, 0, 1, 1);
        did(last, 0, 2, 0, 0, 0, 0, 1, 1, 2);
    }

    // Terms: "(.. or, if that is over, now)": off in F itself
    private static void fIsOver() {
        PoolTowels x = Edges.with("chair 1 1;guest 2 8 12 0;guest 8 8 10 0;goes 8;off 6;");
        did(x, 0, 2, 0, 2, 2, 2, 2, 1, 2);
        waiting(x, 0, 0, 0, 0, 0, 0, 0, 0, 1, 1);
        towels(x, -1, -1, 0, 0, 0, 0, 0, 0, 1, 1, 0, 0);
        did(Edges.with("chair 1 1;guest 2 8 12 0;guest 8 8 10 0;goes 8;off 7;"), 0, 2, 0, 4, 4, 4, 1, 0, 0);
        // he took it ahead of F behind waiting, it is off, and he takes it again in F
        PoolTowels y = Edges.with("chair 1 1;guest 0 0 3 0;guest 1 8 12 0;goes 4;off 1;");
        did(y, 1, 1, 0, 4, 4, 4, 2, 1, 2);
    }

    // Terms: (b) is ahead of (c): who comes as the hotel goes by finds the CHAIR free
    private static void offAheadOfComing() {
        PoolTowels x = Edges.with("chair 1 1;guest 2 10 12 0;guest 4 4 6 0;goes 4;off 2;");
        towels(x, -1, -1, 0, 0, 1, 1, -1, -1, -1, -1, 0, 0);
        did(x, 1, 4, 0, 2, 2, 2, 1, 0, 0);
        // what is laid as the hotel goes by was not there
        did(Edges.with("chair 1 1;guest 4 10 12 0;goes 4;off 4;"), 0, 4, 0, 2, 2, 2, 2, 1, 0);
        did(Edges.with("chair 1 1;guest 4 10 12 0;goes 4;off 5;"), 0, 4, 0, 2, 2, 2, 1, 0, 0);
    }

    // Terms: "(c) Who comes, by number"
    private static void comesByNumber() {
        PoolTowels x = Edges.with("chair 1 1;chair 5 5;chair 3 3;guest 4 4 6 0;guest 4 4 6 0;guest 4 4 6 0;guest 4 4 6 0;");
        did(x, 0, 4, 1, 2, 10);
        did(x, 1, 4, 2, 2, 6);
        did(x, 2, 4, 0, 2, 2);
        did(x, 3, 4, -1, 0, 0, 0, 0, 0, 2);
        waiting(x, 0, 0, 0, 0, 8, 8);
    }

    // Terms: "if he has not left by then (T is later)"
    private static void hasLeftByThen() {
        did(Edges.with("chair 1 1;guest 8 2 9 0;"), 0, 8, 0, 1, 1, 1, 1, 0, 0);
        did(Edges.with("chair 1 1;guest 9 2 9 0;"), 0, 9, -1, 0, 0, 0, 0, 0, 0);
        did(Edges.with("chair 1 1;guest 10 2 9 0;"), 0, 10, -1, 0, 0, 0, 0, 0, 0);
        did(Edges.with("chair 1 1;guest 23 2 23 0;"), 0, 23, -1, 0, 0, 0, 0, 0, 0);
        did(Edges.with("chair 1 1;guest 22 22 23 0;"), 0, 22, 0, 1, 1, 1, 1, 0, 0);
        // nor does he wait
        waiting(Edges.with("guest 9 2 9 0;"));
        waiting(Edges.with("guest 8 2 9 0;"), 0, 0, 0, 0, 0, 0, 0, 0, 1);
        // nor is a CHAIR of his missed by others
        PoolTowels x = Edges.with("chair 1 1;guest 9 2 9 0;guest 9 2 12 0;");
        did(x, 1, 9, 0, 3, 3, 3, 1, 0, 0);
    }

    // Terms: "he takes the free CHAIR of most WORTH to him (of alike ones the least)"
    private static void ofAlikeChairsTheLeast() {
        did(Edges.with("chair 2 2;chair 2 2;chair 2 2;guest 5 5 9 0;"), 0, 5, 0);
        did(Edges.with("chair 1 1;chair 2 2;chair 2 2;guest 5 5 9 0;"), 0, 5, 1);
        did(Edges.with("chair 1 1;chair 2 2;chair 3 3;guest 5 5 9 0;"), 0, 5, 2);
        // alike to him, though not of one worth: 9 * 1 and 1 * 9
        did(Edges.with("chair 1 9;chair 9 1;guest 11 11 13 0;"), 0, 11, 0, 2, 10);
        did(Edges.with("chair 0 0;guest 5 5 9 0;"), 0, 5, 0, 4, 0, 0, 1);
        PoolTowels x = Edges.with("chair 2 2;".repeat(8) + "guest 5 5 9 0;".repeat(8));
        for (int g = 0; g < 8; g++) {
            did(x, g, 5, g, 4, 8);
        }
    }

    // Terms: (c) is ahead of (d)
    private static void newcomersAhead() {
        PoolTowels x = Edges.with("chair 1 1;guest 0 0 5 0;guest 1 1 10 0;guest 5 5 8 0;");
        towels(x, 0, 0, 0, 0, 0, 2, 2, 2, 1, 1);
        waiting(x, 0, 2, 2, 2, 2, 2, 2, 2);
        did(x, 1, 1, 0, 2, 2, 2, 1, 0, 7);
        // even if one of the two waits by a lesser number
        PoolTowels y = Edges.with("chair 1 1;guest 1 1 10 0;guest 0 0 5 0;guest 5 5 8 0;");
        towels(y, 1, 1, 1, 1, 1, 2, 2, 2, 0, 0);
        // what the newcomer leaves is taken in the same HALF, and he lies at once
        PoolTowels z = Edges.with("chair 1 1;chair 2 2;guest 0 0 5 0;guest 0 0 5 0;guest 1 1 10 0;guest 5 5 8 0;");
        did(z, 3, 5, 1, 3, 6, 6, 1, 0, 0);
        did(z, 2, 1, 0, 5, 5, 5, 1, 0, 4);
    }

    // Terms: "(d) Those who wait .., in the order of the HALVES in which they began to"
    private static void inTheOrderOfHalves() {
        PoolTowels x = Edges.with("chair 1 1;guest 0 0 10 0;guest 6 6 13 0;guest 5 5 12 0;guest 4 4 11 0;");
        towels(x, 0, 0, 0, 0, 0, 0, 0, 0, 0, 0, 3, 2, 1);
        waiting(x, 0, 0, 0, 0, 8, 12, 14, 14, 14, 14, 6, 2);
        // whose towel was off stands by his F, not by his coming
        PoolTowels y = Edges.with("chair 1 1;guest 2 10 20 0;guest 4 4 12 0;guest 9 9 15 0;goes 4;off 1;");
        towels(y, -1, -1, 0, 0, 1, 1, 1, 1, 1, 1, 1, 1, 2, 2, 2, 0, 0, 0, 0, 0);
        PoolTowels z = Edges.with("chair 1 1;guest 2 10 20 0;guest 4 4 12 0;guest 11 11 15 0;goes 4;off 1;");
        towels(z, -1, -1, 0, 0, 1, 1, 1, 1, 1, 1, 1, 1, 0, 0, 0, 0, 0, 0, 0, 0);
        // two that are free at one time: the first in the row has the better one
        PoolTowels two = Edges.with("chair 1 1;chair 2 2;guest 0 0 5 0;guest 0 0 5 0;guest 2 2 9 0;guest 1 1 9 0;");
        did(two, 3, 1, 1, 4, 8, 8, 1, 0, 4);
        did(two, 2, 2, 0, 4, 4, 4, 1, 0, 3);
    }

    // Terms: "(of one by number)"
    private static void ofOneByNumber() {
        PoolTowels x = Edges.with("chair 1 1;guest 3 3 9 0;guest 0 0 5 0;guest 3 3 9 0;");
        towels(x, 1, 1, 1, 1, 1, 0, 0, 0, 0);
        // one came in vain in 8, of the other F begins in 8
        PoolTowels y = Edges.with("chair 1 1;guest 8 8 20 0;guest 2 8 20 0;guest 4 4 10 0;goes 4;off 1;");
        Checks.due("he who came in vain, by number", 0, () -> y.towel(0, 10));
        PoolTowels z = Edges.with("chair 1 1;guest 2 8 20 0;guest 8 8 20 0;guest 4 4 10 0;goes 4;off 1;");
        Checks.due("he whose towel was off, by number", 0, () -> z.towel(0, 10));
        PoolTowels eight = Edges.with("chair 1 1;guest 0 0 5 0;" + "guest 1 1 23 0;".repeat(7));
        Checks.due("the first of seven", 1, () -> eight.towel(0, 5));
        Checks.due("six wait on", 252, () -> eight.waits(5));
        // all eight wait at one time: seven came in vain, and GUEST 0's towel is off as his F begins
        PoolTowels all = Edges.with("chair 1 1;guest 0 4 12 0;" + "guest 1 1 5 0;".repeat(7) + "goes 4;off 2;");
        towels(all, 0, 0, 0, 0, 1, 0, 0, 0, 0, 0, 0, 0);
        waiting(all, 0, 254, 254, 254, 253);
    }

    // Terms: "(e) Who has a CHAIR, from F on, lies: he gets its worth."
    private static void liesFromF() {
        PoolTowels x = Edges.with("chair 2 3;guest 9 11 14 0;");
        lain(x, -1, -1, -1, -1, -1, -1, -1, -1, -1, -1, -1, 0, 0, 0);
        towels(x, -1, -1, -1, -1, -1, -1, -1, -1, -1, 0, 0, 0, 0, 0);
        did(x, 0, 9, 0, 3, 8, 8, 1, 0, 0);
        Checks.due("lain on", 3, () -> x.chair(0, 2));
        // who comes behind F lies at once
        lain(Edges.with("chair 2 3;guest 12 11 14 0;"), -1, -1, -1, -1, -1, -1, -1, -1, -1, -1, -1, -1, 0, 0);
        // who waited lies in the HALF in which he takes it
        lain(Edges.with("chair 1 1;guest 0 0 5 0;guest 3 3 8 0;"), 0, 0, 0, 0, 0, 1, 1, 1);
    }

    // Terms: "less C for each HALF he came ahead of U"
    private static void netAheadOfU() {
        int[][] due = {{0, 90}, {9, 9}, {10, 0}, {11, 0}, {23, 0}};
        for (int[] pair : due) {
            PoolTowels x = Edges.with("guest 10 1 2 9;");
            Feeding.habit(x, 0, Integer.toString(pair[0]));
            x.day(1);
            Checks.due("NET, if he comes in " + pair[0], -pair[1], () -> x.did(0, 4));
            Checks.due("sleep lost, if he comes in " + pair[0], pair[1] / 9, () -> x.sums(3));
        }
        PoolTowels least = Edges.with("guest 23 1 2 9;");
        Feeding.habit(least, 0, "0");
        least.day(1);
        Checks.due("the least NET without a CHAIR", -207, () -> least.did(0, 4));
        Checks.due("all NET", -207, () -> least.sums(1));
    }

    // Terms: "less the hire for each CHAIR he took"
    private static void netHireForEach() {
        Checks.due("none", 0, () -> Edges.with("guest 1 1 2 0;hire 99;").did(0, 4));
        Checks.due("one", -98, () -> Edges.with("chair 1 1;guest 1 1 2 0;hire 99;").did(0, 4));
        Checks.due("two", -197, () -> Edges.with("chair 1 1;guest 0 1 2 0;goes 1;off 1;hire 99;").did(0, 4));
        Checks.due("it is no part of what he got", 1, () -> Edges.with("chair 1 1;guest 0 1 2 0;goes 1;off 1;hire 99;").did(0, 3));
    }

    // Terms: "IDLE: HALVES .. in which a towel is on a CHAIR (behind (d)) and nobody lies on it"
    private static void idleBehindD() {
        PoolTowels x = Edges.with("chair 1 1;chair 2 2;guest 3 8 12 0;guest 5 9 12 0;");
        Checks.due("IDLE of CHAIR 1", 5, () -> x.chair(1, 3));
        Checks.due("IDLE of CHAIR 0", 4, () -> x.chair(0, 3));
        Checks.due("of all CHAIRS together", 9, () -> x.sums(2));
        // off and laid again by another in one HALF: it is IDLE in it
        PoolTowels y = Edges.with("chair 1 1;guest 2 20 21 0;guest 4 20 21 0;goes 4;off 2;");
        Checks.due("IDLE from 2 to 7", 6, () -> y.chair(0, 3));
        Checks.due("never IDLE", 0, () -> Edges.with("chair 1 1;guest 8 8 12 0;").sums(2));
    }

    // Terms: "last" .. "(.. 23, if none did)"
    private static void lastIfNone() {
        Checks.due("no CHAIRS", 23, () -> next("guest 4 4 9 0;", "last"));
        Checks.due("not more than 23", 22, () -> next("guest 4 4 9 0;", "last - 1"));
        Checks.due("all came too late", 23, () -> next("chair 1 1;guest 9 4 9 0;guest 12 4 9 0;", "last"));
        Checks.due("one did", 4, () -> next("chair 1 1;guest 4 4 9 0;guest 6 4 9 0;", "last"));
        Checks.due("in HALF 0", 0, () -> next("chair 1 1;guest 0 4 9 0;guest 6 4 9 0;", "last"));
        Checks.due("the latest of two", 6, () -> next("chair 1 1;chair 1 1;guest 6 4 9 0;guest 4 4 9 0;", "last"));
        // who waited has none as he came
        Checks.due("not he who waited", 0, () -> next("chair 1 1;guest 0 0 3 0;guest 2 2 9 0;", "last"));
    }

    /** In which HALF GUEST 0 comes on DAY 1 by this HABIT. */
    private static int next(String pool, String habit) {
        PoolTowels x = Edges.with(pool);
        Feeding.habit(x, 0, habit);
        x.day(1);
        return x.did(0, 0);
    }

    // Terms: "first" (the earliest in which one came)
    private static void firstOfAll() {
        Checks.due("alone", 7, () -> next("chair 1 1;guest 7 8 9 0;", "first"));
        Checks.due("the other one", 3, () -> next("chair 1 1;guest 7 8 9 0;guest 3 8 9 0;", "first"));
        Checks.due("without a CHAIR too", 3, () -> next("guest 7 8 9 0;guest 3 8 9 0;", "first"));
        Checks.due("too late for a CHAIR", 9, () -> next("chair 1 1;guest 12 2 5 0;guest 9 2 9 0;", "first"));
        Checks.due("in HALF 23", 23, () -> next("chair 1 1;guest 23 2 5 0;", "first"));
    }

    // Terms: "got" (1, if he had a CHAIR, else 0), "lain", "off" (1, if his towel was taken off, else 0)
    private static void gotLainOff() {
        Checks.due("had one", 1, () -> next("chair 1 1;guest 7 8 9 0;", "got"));
        Checks.due("had none", 0, () -> next("guest 7 8 9 0;", "got"));
        Checks.due("had none is 0, not less", 5, () -> next("guest 7 8 9 0;", "got + 5"));
        Checks.due("had one is 1", 6, () -> next("chair 1 1;guest 7 8 9 0;", "got + 5"));
        Checks.due("not off is 0, not less", 5, () -> next("chair 1 1;guest 7 8 9 0;", "off + 5"));
        Checks.due("had two", 1, () -> next("chair 1 1;guest 2 8 9 0;goes 3;off 1;", "got"));
        Checks.due("had one, but never lay", 1,
            () -> next("chair 1 1;guest 2 10 12 0;guest 7 7 14 0;goes 7;off 2;", "got"));
        Checks.due("never lay", 0, () -> next("chair 1 1;guest 2 10 12 0;guest 7 7 14 0;goes 7;off 2;", "lain"));
        Checks.due("had it behind waiting", 1, () -> next("chair 1 1;guest 2 2 9 0;guest 0 0 3 0;", "got"));
        Checks.due("lain 23", 23, () -> next("chair 1 1;guest 0 0 23 0;", "lain"));
        Checks.due("off once", 1, () -> next("chair 1 1;guest 2 8 9 0;goes 3;off 1;", "off"));
        Checks.due("off not", 0, () -> next("chair 1 1;guest 8 8 9 0;goes 3;off 1;", "off"));
        Checks.due("another's is off", 0, () -> next("chair 1 1;chair 1 1;guest 8 8 9 0;guest 1 8 9 0;goes 3;off 1;", "off"));
    }

    // 7: "0 CHAIRS, 1 GUESTS, 2 G, 3 L, 4 P, 5 the DAY, 6 lines .. IllegalArgumentException: another what (so below)."
    private static void told() {
        Edges.within("7: told", 0, 6, two(), PoolTowels::told);
        PoolTowels x = Edges.with("chair 9 9;".repeat(8) + "guest 0 1 2 0;".repeat(8) + "goes 23;off 22;hire 99;");
        x.day(199);
        Feeding.book(x, "0 7 1;".repeat(12));
        int[] due = {8, 8, 23, 22, 99, 199, 12};
        for (int what = 0; what < due.length; what++) {
            int w = what;
            Checks.due("7: told " + w, due[w], () -> x.told(w));
        }
    }

    // 8: of a CHAIR 0 to 4
    private static void chair() {
        Edges.within("8: chair", 0, 4, two(), (x, what) -> x.chair(1, what));
        Edges.elements("8: chair", 2, two(), (x, c) -> x.chair(c, 4));
        Edges.noElements("8: chair with a wrong what", 2, two(), (x, c) -> x.chair(c, 5));
        PoolTowels never = Edges.with("chair 9 8;");
        int[] due = {9, 8, 0, 0, 0};
        for (int what = 0; what < due.length; what++) {
            int w = what;
            Checks.due("8: a CHAIR that nobody takes", due[w], () -> never.chair(0, w));
        }
        PoolTowels often = Edges.with("chair 1 1;guest 0 10 20 0;guest 3 3 4 0;guest 4 4 5 0;guest 5 5 6 0;goes 3;off 1;");
        Checks.due("8: taken five times", 5, () -> often.chair(0, 4));
        Checks.due("8: lain on", 13, () -> often.chair(0, 2));
        Checks.due("8: IDLE", 3, () -> often.chair(0, 3));
    }

    // 9: of a GUEST 0 to 3
    private static void guest() {
        Edges.within("9: guest", 0, 3, two(), (x, what) -> x.guest(1, what));
        Edges.elements("9: guest", 2, two(), (x, g) -> x.guest(g, 3));
        Edges.noElements("9: guest with a wrong what", 2, two(), (x, g) -> x.guest(g, 4));
        // more CHAIRS than GUESTS, and more GUESTS than CHAIRS: each has its own numbers
        Supplier<PoolTowels> chairs = () -> Edges.with("chair 1 1;".repeat(3) + "guest 0 1 2 0;");
        Edges.elements("9: one GUEST of three CHAIRS", 1, chairs, (x, g) -> x.guest(g, 0));
        Edges.elements("8: three CHAIRS of one GUEST", 3, chairs, (x, c) -> x.chair(c, 0));
        Supplier<PoolTowels> guests = () -> Edges.with("guest 0 1 2 0;".repeat(3) + "chair 1 1;");
        Edges.elements("9: three GUESTS", 3, guests, (x, g) -> x.guest(g, 0));
        Edges.elements("8: one CHAIR of three GUESTS", 1, guests, (x, c) -> x.chair(c, 0));
    }

    // 10: "The DAY is another one (0 to 199): what it was."
    private static void day() {
        Edges.within("10: day", 0, 199, two(), PoolTowels::day);
        PoolTowels x = Edges.with("chair 1 1;guest 10 12 15 0;");
        Feeding.habit(x, 0, "day / 9");
        Checks.due("10: from 0", 0, () -> x.day(199));
        Checks.due("10: the last", 22, () -> x.did(0, 0));
        Checks.due("10: from 199", 199, () -> x.day(199));
        Checks.due("10: to the same", 199, () -> x.day(0));
        Checks.due("10: the first", 10, () -> x.did(0, 0));
        Checks.due("10: from 0 again", 0, () -> x.day(1));
        Edges.badArgument("10: 200", x, () -> x.day(200));
        Checks.due("10: it stays", 1, () -> x.told(5));
        Checks.due("10: it is no change", 0, () -> x.count(2));
    }

    // 11: of a GUEST on the DAY 0 to 7; "1 the CHAIR he took first (NONE)"
    private static void did() {
        Edges.within("11: did", 0, 7, two(), (x, what) -> x.did(1, what));
        Edges.elements("11: did", 2, two(), (x, g) -> x.did(g, 7));
        Edges.noElements("11: did with a wrong what", 2, two(), (x, g) -> x.did(g, 8));
        did(Edges.with("guest 5 6 9 1;"), 0, 5, -1, 0, 0, 0, 0, 0, 4);
        // the first one, not the last: CHAIR 1 in 2, off in 4 and taken by another, then CHAIR 0
        PoolTowels x = Edges.with("chair 1 1;chair 2 2;guest 2 8 9 0;guest 4 4 12 0;goes 4;off 1;hire 3;");
        did(x, 0, 2, 1, 1, 1, -5, 2, 1, 0);
    }

    // 12: "Whose towel is on a CHAIR in a HALF (0 to 23; behind (d)); NONE."
    private static void towel() {
        Edges.within("12: towel", 0, 23, two(), (x, h) -> x.towel(1, h));
        Edges.elements("12: towel", 2, two(), (x, c) -> x.towel(c, 23));
        Edges.noElements("12: towel in a wrong HALF", 2, two(), (x, c) -> x.towel(c, 24));
        PoolTowels x = Edges.with("chair 1 1;chair 2 2;guest 0 0 1 0;guest 0 22 23 0;");
        Checks.due("12: in 0", 0, () -> x.towel(1, 0));
        Checks.due("12: in 0 too", 1, () -> x.towel(0, 0));
        Checks.due("12: no more in 1", -1, () -> x.towel(1, 1));
        Checks.due("12: in 22", 1, () -> x.towel(0, 22));
        Checks.due("12: in 23", -1, () -> x.towel(0, 23));
        Checks.due("12: behind (d)", 1, () -> Edges.with("chair 1 1;guest 0 0 5 0;guest 3 3 8 0;").towel(0, 5));
    }

    // 13: "Who lies on it; NONE."
    private static void lies() {
        Edges.within("13: lies", 0, 23, two(), (x, h) -> x.lies(1, h));
        Edges.elements("13: lies", 2, two(), (x, c) -> x.lies(c, 23));
        Edges.noElements("13: lies in a wrong HALF", 2, two(), (x, c) -> x.lies(c, 24));
        PoolTowels x = Edges.with("chair 1 1;chair 2 2;guest 0 0 1 0;guest 0 22 23 0;");
        Checks.due("13: in 0", 0, () -> x.lies(1, 0));
        Checks.due("13: a towel alone", -1, () -> x.lies(0, 0));
        Checks.due("13: a towel alone till 21", -1, () -> x.lies(0, 21));
        Checks.due("13: in 22", 1, () -> x.lies(0, 22));
        Checks.due("13: in 23", -1, () -> x.lies(0, 23));
    }

    // 14: "Who waits in a HALF (behind (d)), as bits."
    private static void waits() {
        Edges.within("14: waits", 0, 23, two(), PoolTowels::waits);
        PoolTowels all = Edges.with("guest 0 1 23 0;".repeat(8));
        Checks.due("14: all eight in 0", 255, () -> all.waits(0));
        Checks.due("14: in 22", 255, () -> all.waits(22));
        Checks.due("14: none in 23", 0, () -> all.waits(23));
        // who takes one in (d) waits no more in that HALF
        waiting(Edges.with("chair 1 1;guest 0 0 5 0;guest 3 3 8 0;"), 0, 0, 0, 2, 2);
        // on another DAY nobody waits as on the one asked for ahead of it
        PoolTowels x = Edges.with("guest 0 1 9 0;");
        Feeding.habit(x, 0, "mine + 1");
        for (int d = 0; d < 12; d++) {
            x.day(d);
            for (int h = 0; h < 24; h++) {
                int half = h;
                Checks.due("14: on DAY " + d + " in " + h, h >= d && h < 9 ? 1 : 0, () -> x.waits(half));
            }
        }
    }

    // 15: on the DAY 0 to 5
    private static void sums() {
        Edges.within("15: sums", 0, 5, two(), PoolTowels::sums);
        PoolTowels x = Edges.with("chair 9 9;".repeat(8) + "guest 0 0 23 9;".repeat(8) + "hire 99;");
        int[] due = {8 * 207, 8 * 108, 0, 0, 8, 0};
        for (int what = 0; what < due.length; what++) {
            int w = what;
            Checks.due("15: the most, " + w, due[w], () -> x.sums(w));
        }
        Checks.due("15: who had two counts once", 1, () -> Edges.with("chair 1 1;guest 0 1 2 0;goes 1;off 1;").sums(4));
    }

    // 16: a GUEST, a CHAIR, a HALF
    private static void worth() {
        Edges.within("16: worth", 0, 23, two(), (x, h) -> x.worth(1, 1, h));
        Supplier<PoolTowels> three = () -> Edges.with(TWO + "guest 1 2 3 4;");
        Edges.elements("16: worth", 3, three, (x, g) -> x.worth(g, 1, 23));
        Edges.elements("16: worth", 2, three, (x, c) -> x.worth(2, c, 23));
        Edges.noElements("16: worth in a wrong HALF", 3, three, (x, g) -> x.worth(g, 1, 24));
        Edges.noElements("16: worth in a wrong HALF", 2, three, (x, c) -> x.worth(1, c, -1));
        PoolTowels most = Edges.with("chair 9 9;guest 0 0 23 0;");
        Checks.due("16: the most", 207, () -> most.worth(0, 0, 0));
        Checks.due("16: the last HALF", 9, () -> most.worth(0, 0, 22));
        Checks.due("16: behind it", 0, () -> most.worth(0, 0, 23));
    }

    // 17: "mine, first, last, lain (0 to 23 each), got (0, 1) as told, off 0, on a DAY (0 to 999)"
    private static void would() {
        Edges.within("17: mine", 0, 23, two(), (x, v) -> x.would(1, v, 0, 0, 0, 0, 0));
        Edges.within("17: first", 0, 23, two(), (x, v) -> x.would(1, 0, v, 0, 0, 0, 0));
        Edges.within("17: last", 0, 23, two(), (x, v) -> x.would(1, 0, 0, v, 0, 0, 0));
        Edges.within("17: got", 0, 1, two(), (x, v) -> x.would(1, 0, 0, 0, v, 0, 0));
        Edges.within("17: lain", 0, 23, two(), (x, v) -> x.would(1, 0, 0, 0, 0, v, 0));
        Edges.within("17: day", 0, 999, two(), (x, v) -> x.would(1, 0, 0, 0, 0, 0, v));
        Edges.elements("17: would", 2, two(), (x, g) -> x.would(g, 23, 23, 23, 1, 23, 999));
        Edges.noElements("17: would by wrong ones", 2, two(), (x, g) -> x.would(g, 24, 24, 24, 2, 24, 1000));
        PoolTowels x = Edges.with(TWO);
        Feeding.habit(x, 0, "off * 9 + day / 99");
        Checks.due("17: on DAY 999, off 0", 10, () -> x.would(0, 23, 23, 23, 1, 23, 999));
        Checks.due("17: on DAY 0 by the HABIT too", 0, () -> x.would(0, 23, 23, 23, 1, 23, 0));
        PoolTowels off = Edges.with("chair 1 1;guest 2 8 9 0;goes 3;off 1;");
        Feeding.habit(off, 0, "off * 9 + 4");
        Checks.due("17: off 0, though a towel is off", 4, () -> off.did(0, 6) == 1 ? off.would(0, 2, 2, 2, 1, 1, 1) : -1);
        Feeding.habit(x, 0, "mine");
        Checks.due("17: of the GUEST told", 9, () -> x.would(1, 23, 23, 23, 1, 23, 0));
        x.day(7);
        Checks.due("17: the DAY that is is no part of it", 3, () -> x.would(0, 3, 0, 0, 0, 0, 0));
        Checks.due("17: it stays", 7, () -> x.told(5));
    }

    private static void round(PoolTowels x, int from, int many) {
        Checks.due("18: begins", from, () -> x.round(0));
        Checks.due("18: takes", many, () -> x.round(1));
    }

    // 18: "ROUND: 0 the DAY on which it begins, 1 how many DAYS", "(1: REST)"
    private static void round() {
        Edges.within("18: round", 0, 1, two(), PoolTowels::round);
        PoolTowels x = Edges.with("chair 1 1;guest 10 12 15 0;");
        round(x, 0, 1);
        Feeding.habit(x, 0, "mine");
        round(x, 0, 1);
        Feeding.habit(x, 0, "5");
        round(x, 1, 1);
        Feeding.habit(x, 0, "if mine = 10 then 9 else 10");
        round(x, 0, 2);
        Feeding.habit(x, 0, "if mine = 8 then 9 else 8");
        round(x, 1, 2);
        x.day(150);
        round(x, 1, 2);
        x.wakes(0, 8);
        round(x, 0, 2);
        round(new PoolTowels(), 0, 1);
    }

    // Terms, (b): DAYS are by the L and the G that are, and what was off tells how he comes
    private static void daysByL() {
        // laid in 2, the hotel goes by in 6: by an L of 4 it is off, by 5 not
        for (int l = 1; l <= 6; l++) {
            PoolTowels x = Edges.with("chair 1 1;guest 2 9 12 0;goes 6;off " + l + ";");
            Feeding.habit(x, 0, "if off = 1 then 7 else 2");
            x.day(1);
            int due = l <= 4 ? 7 : 2;
            Checks.due("on DAY 1 by an L of " + l, due, () -> x.did(0, 0));
            Checks.due("the round by an L of " + l, l <= 4 ? 2 : 1, () -> x.round(1));
        }
    }

    // 18, Terms: "(all of the first 200 ..)"; "NONE: none in the first 200."
    private static void roundOfTheFirst200() {
        PoolTowels x = Edges.with("guest 0 1 2 0;guest 0 1 2 0;guest 0 1 2 0;");
        Feeding.habit(x, 0, "(mine + 1) % 11");
        Feeding.habit(x, 1, "(mine + 1) % 18");
        round(x, 0, 198);
        // from DAY 1 on 198 DAYS: DAY 199 is as DAY 1
        Feeding.habit(x, 0, "if mine = 11 then 1 else mine + 1");
        round(x, 1, 198);
        // from DAY 2 on: DAY 200 would be as DAY 2
        Feeding.habit(x, 0, "if mine = 12 then 2 else mine + 1");
        round(x, -1, -1);
        // 209 DAYS are too many
        Feeding.habit(x, 0, "(mine + 1) % 11");
        Feeding.habit(x, 1, "(mine + 1) % 19");
        round(x, -1, -1);
    }

    // 18, Terms: "(.. never, if a HABIT asks for day)"
    private static void roundNeverByDay() {
        PoolTowels x = Edges.with("chair 1 1;guest 10 12 15 0;guest 10 12 15 0;");
        for (String asks : new String[] {"day", "mine + day * 0", "if 1 = 1 then 5 else day", "(day)", "least[5,day+90]", "day + mine", "day * 0 + 5"}) {
            Feeding.habit(x, 1, asks);
            round(x, -1, -1);
            Feeding.habit(x, 1, "5");
            round(x, 1, 1);
        }
        Feeding.habit(x, 0, "day");
        Feeding.habit(x, 1, "day");
        Feeding.habit(x, 0, "wake");
        round(x, -1, -1);
        // a HABIT that did not become one asks for nothing
        Feeding.habit(x, 1, "5");
        Feeding.habit(x, 1, "day +");
        round(x, 1, 1);
        Feeding.habit(x, 1, "day");
        Feeding.pool(x, "chair 1 1;guest 10 12 15 0;guest 10 12 15 0;");
        round(x, 0, 1);
    }

    // 19: "The first DAY from 1 on (to 199) on which a GUEST has no CHAIR; NONE."
    private static void out() {
        Edges.elements("19: out", 2, two(), PoolTowels::out);
        PoolTowels x = Edges.with("chair 1 1;guest 5 6 9 0;");
        Checks.due("19: never", -1, () -> x.out(0));
        Feeding.habit(x, 0, "if day = 99 + 99 + 1 then 9 else 5");
        Checks.due("19: on DAY 199", 199, () -> x.out(0));
        Feeding.habit(x, 0, "if day = 99 + 99 + 2 then 9 else 5");
        Checks.due("19: on DAY 200", -1, () -> x.out(0));
        Feeding.habit(x, 0, "if day = 1 then 9 else 5");
        Checks.due("19: on DAY 1", 1, () -> x.out(0));
        Feeding.habit(x, 0, "5");
        x.wakes(0, 9);
        Checks.due("19: not on DAY 0", -1, () -> x.out(0));
        Checks.due("19: without CHAIRS", 1, () -> Edges.with("guest 5 6 9 0;").out(0));
        Feeding.habit(x, 0, "if day = 1 then 9 else 5");
        x.day(150);
        Checks.due("19: from 1 on, whatever DAY is", 1, () -> x.out(0));
        // who had one and lost it ahead of lying is not without
        PoolTowels lost = Edges.with("chair 1 1;guest 2 10 12 0;guest 7 7 14 0;goes 7;off 2;");
        did(lost, 0, 2, 0, 0, 0, 0, 1, 1, 2);
        Checks.due("19: had one, but never lay", -1, () -> lost.out(0));
        Checks.due("20: had one, but never lay", 9, () -> lost.had(0, 9));
        Checks.due("15: had one, but never lay", 2, () -> lost.sums(4));
        lost.hotel(7, 6);
        Checks.due("20: by an L of 6 he keeps it, and GUEST 1 has it from 12 on", 9, () -> lost.had(1, 9));
        Checks.due("11: for two HALVES", 2, () -> lost.did(1, 2));
    }

    // 20: "On how many of DAYS 0 to n less 1 (n 1 to 200)"
    private static void had() {
        Edges.within("20: had", 1, 200, two(), (x, n) -> x.had(1, n));
        Edges.elements("20: had", 2, two(), (x, g) -> x.had(g, 200));
        Edges.noElements("20: had of a wrong n", 2, two(), (x, g) -> x.had(g, 0));
        Edges.noElements("20: had of a wrong n", 2, two(), (x, g) -> x.had(g, 201));
        PoolTowels x = Edges.with("chair 1 1;guest 5 6 9 0;");
        Checks.due("20: all of 200", 200, () -> x.had(0, 200));
        Checks.due("20: of DAY 0", 1, () -> x.had(0, 1));
        Feeding.habit(x, 0, "if day = 99 + 99 + 1 then 9 else 5");
        Checks.due("20: not on DAY 199", 199, () -> x.had(0, 200));
        Checks.due("20: all of 199", 199, () -> x.had(0, 199));
        Feeding.habit(x, 0, "9");
        Checks.due("20: on DAY 0 alone", 1, () -> x.had(0, 200));
        x.wakes(0, 9);
        Checks.due("20: never", 0, () -> x.had(0, 200));
        Feeding.habit(x, 0, "5");
        Checks.due("20: not on DAY 0", 0, () -> x.had(0, 1));
        Checks.due("20: but on DAY 1", 1, () -> x.had(0, 2));
        Checks.due("20: on all but DAY 0", 199, () -> x.had(0, 200));
    }
}
