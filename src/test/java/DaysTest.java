/** Promises 7 to 20: what a POOL tells, a DAY half hour by half hour, and many DAYS. */
public final class DaysTest {
    private DaysTest() {
    }

    public static void main(String[] args) {
        promise7();
        promise8And9();
        promise10();
        newcomersGoFirst();
        towelIsOff();
        offEdges();
        queueGoesByBeginning();
        comesTooLate();
        bestChair();
        netAndSums();
        askedFirst();
        promise16();
        promise17();
        habitsByYesterday();
        promise18();
        promise18Long();
        promise19And20();
        wrongInputs();
        Checks.end();
    }

    private static PoolTowels with(String pool) {
        PoolTowels x = new PoolTowels();
        Feeding.pool(x, pool);
        return x;
    }

    private static void did(PoolTowels x, int guest, int... due) {
        for (int what = 0; what < due.length; what++) {
            int w = what;
            Checks.due("11: did(" + guest + ", " + w + ")", due[w], () -> x.did(guest, w));
        }
    }

    private static void row(String name, Checks.Call[] calls, int... due) {
        for (int i = 0; i < due.length; i++) {
            Checks.due(name + " " + i, due[i], calls[i]);
        }
    }

    private static void waits(PoolTowels x, int... due) {
        Checks.Call[] calls = new Checks.Call[24];
        for (int h = 0; h < 24; h++) {
            int half = h;
            calls[h] = () -> x.waits(half);
        }
        row("14: waits", calls, due);
    }

    private static void towels(PoolTowels x, int chair, int... due) {
        Checks.Call[] calls = new Checks.Call[24];
        for (int h = 0; h < 24; h++) {
            int half = h;
            calls[h] = () -> x.towel(chair, half);
        }
        row("12: towel " + chair, calls, due);
    }

    private static void lies(PoolTowels x, int chair, int... due) {
        Checks.Call[] calls = new Checks.Call[24];
        for (int h = 0; h < 24; h++) {
            int half = h;
            calls[h] = () -> x.lies(chair, half);
        }
        row("13: lies " + chair, calls, due);
    }

    private static void sums(PoolTowels x, int... due) {
        for (int what = 0; what < due.length; what++) {
            int w = what;
            Checks.due("15: sums(" + w + ")", due[w], () -> x.sums(w));
        }
    }

    private static void promise7() {
        PoolTowels x = with("chair 1 2;guest 1 2 3 4;guest 1 2 3 4;goes 5;off 6;hire 7;");
        x.day(8);
        Feeding.book(x, "0 0 1;0 1 1;0 1 2;");
        int[] due = {1, 2, 5, 6, 7, 8, 3};
        for (int what = 0; what < due.length; what++) {
            int w = what;
            Checks.due("7: told(" + w + ")", due[w], () -> x.told(w));
        }
        Checks.badArgument("7: told(7)", () -> x.told(7));
        Checks.badArgument("7: told(-1)", () -> x.told(-1));
    }

    private static void promise8And9() {
        PoolTowels x = with("chair 3 1;chair 2 4;guest 6 8 14 5;guest 9 10 13 0;guest 20 21 22 9;");
        int[][] chairs = {{3, 1, 3, 1, 1}, {2, 4, 7, 3, 2}};
        int[][] guests = {{6, 8, 14, 5}, {9, 10, 13, 0}, {20, 21, 22, 9}};
        // to GUEST 0 CHAIR 0 is worth 3*4+1*2 = 14, CHAIR 1 2*4+4*2 = 16; GUEST 1 finds CHAIR 0 alone; to 2 they are 1 and 4
        did(x, 0, 6, 1, 6, 16, 16, 1, 0, 0);
        did(x, 1, 9, 0, 3, 7, 7, 1, 0, 0);
        did(x, 2, 20, 1, 1, 4, 4, 1, 0, 0);
        for (int c = 0; c < 2; c++) {
            for (int what = 0; what < 5; what++) {
                int chair = c;
                int w = what;
                Checks.due("8: chair(" + c + ", " + w + ")", chairs[c][w], () -> x.chair(chair, w));
            }
        }
        for (int g = 0; g < 3; g++) {
            for (int what = 0; what < 4; what++) {
                int guest = g;
                int w = what;
                Checks.due("9: guest(" + g + ", " + w + ")", guests[g][w], () -> x.guest(guest, w));
            }
        }
        Checks.noElement("8: chair(2, 0)", () -> x.chair(2, 0));
        Checks.noElement("8: chair(-1, 9)", () -> x.chair(-1, 9));
        Checks.badArgument("8: chair(0, 5)", () -> x.chair(0, 5));
        Checks.badArgument("8: chair(0, -1)", () -> x.chair(0, -1));
        Checks.noElement("9: guest(3, 0)", () -> x.guest(3, 0));
        Checks.noElement("9: guest(-1, 9)", () -> x.guest(-1, 9));
        Checks.badArgument("9: guest(0, 4)", () -> x.guest(0, 4));
        Checks.badArgument("9: guest(0, -1)", () -> x.guest(0, -1));
    }

    private static void promise10() {
        PoolTowels x = with("chair 1 1;guest 10 12 15 0;");
        Feeding.habit(x, 0, "mine - 1");
        Checks.due("10: day(3)", 0, () -> x.day(3));
        Checks.due("10: it is so", 3, () -> x.told(5));
        Checks.due("10: he comes", 7, () -> x.did(0, 0));
        Checks.due("10: day(199)", 3, () -> x.day(199));
        Checks.due("10: he comes", 0, () -> x.did(0, 0));
        Checks.badArgument("10: day(200)", () -> x.day(200));
        Checks.badArgument("10: day(-1)", () -> x.day(-1));
        Checks.due("10: it stays", 199, () -> x.told(5));
        Checks.due("10: day(0)", 199, () -> x.day(0));
        Checks.due("10: he comes as he wakes", 10, () -> x.did(0, 0));
    }

    private static void newcomersGoFirst() {
        PoolTowels x = with("chair 1 2;guest 0 0 5 0;guest 1 1 10 0;guest 5 5 8 0;");
        did(x, 0, 0, 0, 5, 5, 5, 1, 0, 0);
        did(x, 1, 1, 0, 2, 2, 2, 1, 0, 7);
        did(x, 2, 5, 0, 3, 3, 3, 1, 0, 0);
        waits(x, 0, 2, 2, 2, 2, 2, 2, 2, 0, 0, 0, 0);
        towels(x, 0, 0, 0, 0, 0, 0, 2, 2, 2, 1, 1, -1, -1, -1, -1, -1, -1, -1, -1, -1, -1, -1, -1, -1, -1);
        lies(x, 0, 0, 0, 0, 0, 0, 2, 2, 2, 1, 1, -1);
        sums(x, 10, 10, 0, 0, 3, 0);
        // one who waits till T goes without
        PoolTowels y = with("chair 1 2;guest 0 0 9 0;guest 3 5 9 0;");
        did(y, 1, 3, -1, 0, 0, 0, 0, 0, 6);
        waits(y, 0, 0, 0, 2, 2, 2, 2, 2, 2, 0, 0);
        sums(y, 9, 9, 0, 0, 1, 0);
    }

    private static void towelIsOff() {
        PoolTowels x = with("chair 1 2;guest 2 10 12 0;guest 5 5 11 0;goes 4;off 2;");
        did(x, 0, 2, 0, 1, 1, 1, 2, 1, 1);
        did(x, 1, 5, 0, 6, 6, 6, 1, 0, 0);
        towels(x, 0, -1, -1, 0, 0, -1, 1, 1, 1, 1, 1, 1, 0, -1);
        lies(x, 0, -1, -1, -1, -1, -1, 1, 1, 1, 1, 1, 1, 0, -1);
        waits(x, 0, 0, 0, 0, 0, 0, 0, 0, 0, 0, 1, 0, 0);
        sums(x, 7, 7, 2, 0, 2, 1);
        Checks.due("8: lain on", 7, () -> x.chair(0, 2));
        Checks.due("8: idle", 2, () -> x.chair(0, 3));
        Checks.due("8: taken", 3, () -> x.chair(0, 4));
    }

    private static void offEdges() {
        String two = "chair 1 1;guest 6 8 14 0;";
        Checks.due("2b: as F begins", 1, () -> with(two + "goes 4;off 2;").did(0, 6));
        Checks.due("2b: he takes it again", 2, () -> with(two + "goes 4;off 2;").did(0, 5));
        Checks.due("2b: not yet L HALVES", 0, () -> with(two + "goes 4;off 3;").did(0, 6));
        Checks.due("2b: the HALF behind", 1, () -> with(two + "goes 7;off 1;").did(0, 6));
        Checks.due("2b: not in his own", 0, () -> with("chair 1 1;guest 6 7 14 0;goes 6;off 1;").did(0, 6));
        Checks.due("2b: never without G", 0, () -> with(two + "goes 0;off 1;").did(0, 6));
        Checks.due("2b: not one who lies", 0, () -> with("chair 1 1;guest 6 6 14 0;goes 1;off 1;").did(0, 6));
        // nobody goes by in HALF 0, so a towel of HALF 0 is first seen in G
        Checks.due("2b: HALF 0", 3, () -> with("chair 1 1;guest 0 9 14 0;goes 3;off 1;").chair(0, 3));
        Checks.due("2b: HALF 1", 1, () -> with("chair 1 1;guest 0 9 14 0;goes 1;off 1;").chair(0, 3));
        // one who waits ahead of F may lose the CHAIR that he took so
        PoolTowels x = with("chair 1 1;guest 0 0 3 0;guest 1 9 12 0;goes 5;off 2;");
        did(x, 1, 1, 0, 3, 3, 3, 2, 1, 2);
        waits(x, 0, 2, 2, 0, 0, 0, 0, 0, 0, 0);
    }

    private static void queueGoesByBeginning() {
        PoolTowels x = with("chair 1 1;guest 0 0 10 0;guest 5 5 20 0;guest 4 4 12 0;guest 5 5 20 0;");
        towels(x, 0, 0, 0, 0, 0, 0, 0, 0, 0, 0, 0, 2, 2, 1, 1, 1, 1, 1, 1, 1, 1, -1);
        waits(x, 0, 0, 0, 0, 4, 14, 14, 14, 14, 14, 10, 10, 8, 8, 8, 8, 8, 8, 8, 8, 0);
        did(x, 3, 5, -1, 0, 0, 0, 0, 0, 15);
        // whose towel was off waits from F on, behind one who came in vain ahead of it
        PoolTowels y = with("chair 1 1;guest 2 10 20 0;guest 4 4 12 0;guest 9 9 15 0;goes 4;off 1;");
        towels(y, 0, -1, -1, 0, 0, 1, 1, 1, 1, 1, 1, 1, 1, 2, 2, 2, 0, 0, 0, 0, 0, -1);
    }

    private static void comesTooLate() {
        PoolTowels x = with("chair 1 1;guest 9 2 9 0;");
        did(x, 0, 9, -1, 0, 0, 0, 0, 0, 0);
        Checks.due("36: yet he comes", 1, () -> x.early(9));
        Checks.due("36: not ahead of it", 0, () -> x.early(8));
        PoolTowels y = with("chair 1 1;guest 8 2 9 0;");
        did(y, 0, 8, 0, 1, 1, 1, 1, 0, 0);
    }

    private static void bestChair() {
        did(with("chair 2 2;chair 2 2;guest 5 5 9 0;"), 0, 5, 0);
        did(with("chair 0 0;guest 5 5 9 0;"), 0, 5, 0, 4, 0);
        did(with("chair 9 1;chair 5 5;guest 5 8 16 0;"), 0, 5, 0, 8, 40);
        did(with("chair 9 1;chair 5 5;guest 9 8 16 0;"), 0, 9, 1, 7, 35);
        did(with("chair 9 0;chair 0 1;guest 8 11 20 0;"), 0, 8, 0, 9, 9);
        did(with("chair 9 0;chair 0 1;guest 12 11 20 0;"), 0, 12, 1, 8, 8);
    }

    private static void netAndSums() {
        PoolTowels x = with("chair 2 2;guest 9 10 14 3;guest 5 8 12 1;goes 3;off 2;hire 4;");
        Feeding.habit(x, 0, "4");
        Feeding.habit(x, 1, "6");
        x.day(1);
        // GUEST 0 comes in 4, five HALVES ahead; his towel goes in 6, in which GUEST 1 takes the CHAIR till 12
        did(x, 0, 4, 0, 2, 4, -19, 2, 1, 2);
        did(x, 1, 6, 0, 4, 8, 4, 1, 0, 0);
        sums(x, 12, -15, 4, 5, 2, 1);
        Checks.badArgument("15: sums(6)", () -> x.sums(6));
        Checks.badArgument("15: sums(-1)", () -> x.sums(-1));
    }

    /** Each call knows what it needs, whatever was asked ahead of it. */
    private static void askedFirst() {
        String two = "chair 1 1;guest 2 4 9 0;guest 3 4 12 0;";
        Checks.due("8: asked first", 8, () -> with(two).chair(0, 2));
        Checks.due("11: asked first", 5, () -> with(two).did(0, 2));
        Checks.due("12: asked first", 0, () -> with(two).towel(0, 3));
        Checks.due("13: asked first", 1, () -> with(two).lies(0, 10));
        Checks.due("14: asked first", 2, () -> with(two).waits(5));
        Checks.due("15: asked first", 2, () -> with(two).sums(4));
        PoolTowels x = with(two);
        Checks.due("13: DAY 0", 1, () -> x.lies(0, 10));
        Feeding.habit(x, 0, "13");
        x.day(1);
        Checks.due("13: DAY 1", 1, () -> x.lies(0, 5));
        Checks.due("14: DAY 1", 0, () -> x.waits(5));
        Checks.due("12: DAY 1", -1, () -> x.towel(0, 2));
        x.day(0);
        Checks.due("12: DAY 0", 0, () -> x.towel(0, 2));
        x.wakes(0, 1);
        Checks.due("12: behind a change", 0, () -> x.towel(0, 1));
        x.undo();
        Checks.due("12: undone", -1, () -> x.towel(0, 1));
        Feeding.pool(x, "chair 1 1;guest 0 0 1 0;");
        Checks.due("14: of another POOL", 0, () -> x.waits(0));
        Checks.due("12: of another POOL", -1, () -> x.towel(0, 2));
    }

    private static void promise16() {
        PoolTowels x = with("chair 3 1;guest 0 8 14 0;");
        Checks.due("16: ahead of F", 14, () -> x.worth(0, 0, 0));
        Checks.due("16: from F", 14, () -> x.worth(0, 0, 8));
        Checks.due("16: from 9", 11, () -> x.worth(0, 0, 9));
        Checks.due("16: from noon", 2, () -> x.worth(0, 0, 12));
        Checks.due("16: the last", 1, () -> x.worth(0, 0, 13));
        Checks.due("16: from T", 0, () -> x.worth(0, 0, 14));
        Checks.due("16: from 23", 0, () -> x.worth(0, 0, 23));
        Checks.noElement("16: GUEST 1", () -> x.worth(1, 0, 0));
        Checks.noElement("16: CHAIR 1, ahead of HALF 24", () -> x.worth(0, 1, 24));
        Checks.noElement("16: CHAIR -1", () -> x.worth(0, -1, 0));
        Checks.badArgument("16: HALF 24", () -> x.worth(0, 0, 24));
        Checks.badArgument("16: HALF -1", () -> x.worth(0, 0, -1));
        PoolTowels y = with("chair 7 2;guest 0 0 5 0;guest 0 15 20 0;");
        Checks.due("16: all ahead of noon", 35, () -> y.worth(0, 0, 0));
        Checks.due("16: all behind it", 10, () -> y.worth(1, 0, 0));
    }

    private static void promise17() {
        PoolTowels x = with("chair 1 1;guest 7 9 12 0;guest 8 9 12 0;");
        Checks.due("17: without a HABIT", 7, () -> x.would(0, 1, 2, 3, 0, 5, 0));
        Feeding.habit(x, 0, "if day > 99 then mine + first else last - got * 2 + lain");
        Checks.due("17: by the first", 3, () -> x.would(0, 1, 2, 3, 0, 5, 100));
        Checks.due("17: by the other", 7, () -> x.would(0, 1, 2, 4, 1, 5, 99));
        Checks.due("17: 23 at most", 23, () -> x.would(0, 23, 23, 0, 0, 0, 999));
        Feeding.habit(x, 1, "off + 5");
        Checks.due("17: off is 0", 5, () -> x.would(1, 0, 0, 0, 0, 0, 0));
        Checks.noElement("17: GUEST 2", () -> x.would(2, 99, 0, 0, 0, 0, 0));
        int[] most = {23, 23, 23, 1, 23, 999};
        for (int i = 0; i < 6; i++) {
            int at = i;
            Checks.badArgument("17: too great " + i, () -> would(x, at, most[at] + 1));
            Checks.badArgument("17: too small " + i, () -> would(x, at, -1));
            Checks.due("17: the greatest " + i, 5, () -> would(x, at, most[at]));
        }
    }

    private static int would(PoolTowels x, int at, int value) {
        int[] all = new int[6];
        all[at] = value;
        return x.would(1, all[0], all[1], all[2], all[3], all[4], all[5]);
    }

    private static void round(PoolTowels x, int from, int many) {
        Checks.due("18: begins", from, () -> x.round(0));
        Checks.due("18: takes", many, () -> x.round(1));
    }

    /** Each name of a HABIT, by what was on the DAY ahead. */
    private static void habitsByYesterday() {
        PoolTowels x = with("chair 1 1;guest 4 4 9 0;guest 6 7 11 0;guest 2 9 14 0;goes 3;off 1;");
        // GUEST 2 lays in 2, off in 3; GUEST 0 lies from 4 to 8; 1 waits from 6 on, lies in 9 and 10; 2 waits from 9 on,
        // lies from 11 to 13
        x.day(1);
        int[][] due = {{4, 2, 4, 1, 5, 0, 1, 4, 4, 1, 3}, {6, 2, 4, 1, 2, 0, 1, 7, 6, 1, 3}, {2, 2, 4, 1, 3, 1, 1, 9, 2, 1, 3}};
        String[] names = {"mine", "first", "last", "got", "lain", "off", "day", "wish", "wake", "chairs", "guests"};
        for (int g = 0; g < 3; g++) {
            for (int i = 0; i < names.length; i++) {
                int guest = g;
                Feeding.habit(x, g, names[i]);
                Checks.due("2: " + names[i] + " of " + g, due[g][i], () -> x.did(guest, 0));
                Feeding.habit(x, g, "wake");
            }
        }
        PoolTowels none = with("guest 4 4 9 0;guest 6 7 11 0;chair 1 1;");
        Feeding.habit(none, 1, "last");
        none.day(1);
        Checks.due("2: last is the latest who had one as he came", 4, () -> none.did(1, 0));
        Feeding.pool(none, "guest 4 4 9 0;guest 6 7 11 0;");
        Feeding.habit(none, 1, "last");
        none.day(1);
        Checks.due("2: last, if none had one", 23, () -> none.did(1, 0));
        Feeding.habit(none, 0, "got");
        Checks.due("2: got, if he had none", 0, () -> none.did(0, 0));
        PoolTowels late = with("chair 1 1;guest 9 3 9 0;guest 8 3 9 0;");
        Feeding.habit(late, 0, "last");
        Feeding.habit(late, 1, "first");
        late.day(2);
        // DAY 1: GUEST 0 comes in 8, GUEST 1 too and in vain
        Checks.due("2: last of DAY 1", 8, () -> late.did(0, 0));
        Checks.due("2: first of DAY 1", 8, () -> late.did(1, 0));
    }

    private static void promise18() {
        PoolTowels x = with("chair 1 1;guest 10 12 15 0;");
        round(x, 0, 1);
        Feeding.habit(x, 0, "mine - 1");
        round(x, 10, 1);
        Feeding.habit(x, 0, "if mine = 8 then 10 else mine - 1");
        round(x, 0, 3);
        Feeding.habit(x, 0, "if mine < 6 then 9 else mine - 1");
        round(x, 1, 5);
        Feeding.habit(x, 0, "mine + day * 0");
        round(x, -1, -1);
        Feeding.habit(x, 0, "if 1 = 1 then 5 else day");
        round(x, -1, -1);
        Feeding.habit(x, 0, "5");
        round(x, 1, 1);
        Feeding.habit(x, 0, "day");
        Checks.due("18: a FAULT leaves the HABIT", -9, () -> Feeding.habit(x, 0, "5 +"));
        round(x, -1, -1);
        Checks.badArgument("18: round(2)", () -> x.round(2));
        Checks.badArgument("18: round(-1)", () -> x.round(-1));
        PoolTowels y = with("chair 1 1;guest 10 12 20 0;guest 11 12 20 0;");
        // who had none comes a HALF ahead of the first one; who had one comes as he wakes
        Feeding.habit(y, 0, "if got = 0 then first - 1 else wake");
        Feeding.habit(y, 1, "if got = 0 then first - 1 else wake");
        // DAYS: 10 11, 10 9, 8 11, 10 7, 6 11, ...
        Checks.due("18: DAY 0", 0, () -> y.day(1));
        did(y, 0, 10, -1);
        did(y, 1, 9, 0);
        y.day(2);
        did(y, 0, 8, 0);
        did(y, 1, 11, -1);
        y.day(3);
        did(y, 0, 10, -1);
        did(y, 1, 7, 0);
        y.day(9);
        did(y, 0, 10, -1);
        did(y, 1, 1, 0);
        y.day(10);
        did(y, 0, 0, 0);
        did(y, 1, 11, -1);
        y.day(11);
        did(y, 0, 10, -1);
        did(y, 1, 0, 0);
        y.day(12);
        did(y, 0, 0, 0);
        did(y, 1, 11, -1);
        round(y, 10, 2);
    }

    private static void promise18Long() {
        // a counter of three digits goes on too long to come round in the first 200 DAYS
        PoolTowels x = with("guest 0 1 2 0;guest 0 1 2 0;guest 0 1 2 0;");
        Feeding.habit(x, 0, "(mine + 1) % 15");
        Feeding.habit(x, 1, "(mine + 1) % 14");
        round(x, -1, -1);
        Feeding.habit(x, 0, "(mine + 1) % 13");
        round(x, 0, 182);
        Feeding.habit(x, 0, "(mine + 1) % 11");
        Feeding.habit(x, 1, "(mine + 1) % 18");
        round(x, 0, 198);
        Feeding.habit(x, 0, "if mine = 20 then 12 else mine + 1");
        Feeding.habit(x, 1, "if mine = 22 then 1 else mine + 1");
        // 12 to 20: nine DAYS from DAY 12 on; 1 to 22: 22 from DAY 1 on: 198 DAYS from 12 on would end on 210
        round(x, -1, -1);
        Feeding.habit(x, 0, "if mine = 9 then 1 else mine + 1");
        // from DAY 1 on 198 DAYS: DAY 199 is the first again
        round(x, 1, 198);
        Feeding.habit(x, 0, "if mine = 10 then 2 else mine + 1");
        // from DAY 2 on: only DAY 200 would be
        round(x, -1, -1);
    }

    private static void promise19And20() {
        PoolTowels x = with("chair 5 5;guest 10 12 20 1;guest 11 12 20 1;");
        Checks.due("19: GUEST 0", -1, () -> x.out(0));
        Checks.due("19: GUEST 1, not DAY 0", 1, () -> x.out(1));
        Feeding.habit(x, 1, "if day > 3 then 0 else 11");
        Checks.due("19: GUEST 0 from 4 on", 4, () -> x.out(0));
        Checks.due("20: of 4", 4, () -> x.had(0, 4));
        Checks.due("20: of 200", 4, () -> x.had(0, 200));
        Checks.due("20: of 1", 0, () -> x.had(1, 1));
        Checks.due("20: of 5", 1, () -> x.had(1, 5));
        Checks.due("20: of 200", 196, () -> x.had(1, 200));
        Feeding.habit(x, 1, "if day > 98 then if day > 98 + 99 + 1 then 0 else 11 else 11");
        Checks.due("19: on DAY 199", 199, () -> x.out(0));
        Checks.due("20: till 199", 199, () -> x.had(0, 200));
        // asked first of all, behind a change and of another object
        Checks.due("20: asked first", 7, () -> with("chair 1 1;guest 1 2 3 0;").had(0, 7));
        Checks.due("19: asked first", -1, () -> with("chair 1 1;guest 1 2 3 0;").out(0));
        x.wakes(1, 9);
        Checks.due("20: DAY 0 is the other's", 1, () -> x.had(1, 1));
        Checks.due("20: DAY 1 is not", 1, () -> x.had(1, 2));
        Checks.noElement("19: GUEST 2", () -> x.out(2));
        Checks.noElement("19: GUEST -1", () -> x.out(-1));
        Checks.noElement("20: GUEST 2", () -> x.had(2, 0));
        Checks.badArgument("20: 0 DAYS", () -> x.had(0, 0));
        Checks.badArgument("20: 201 DAYS", () -> x.had(0, 201));
    }

    private static void wrongInputs() {
        PoolTowels x = with("chair 1 1;guest 1 2 3 0;");
        Checks.noElement("11: GUEST 1", () -> x.did(1, 99));
        Checks.noElement("11: GUEST -1", () -> x.did(-1, 0));
        Checks.badArgument("11: did(0, 8)", () -> x.did(0, 8));
        Checks.badArgument("11: did(0, -1)", () -> x.did(0, -1));
        Checks.noElement("12: CHAIR 1", () -> x.towel(1, 99));
        Checks.badArgument("12: HALF 24", () -> x.towel(0, 24));
        Checks.badArgument("12: HALF -1", () -> x.towel(0, -1));
        Checks.noElement("13: CHAIR 1", () -> x.lies(1, 99));
        Checks.badArgument("13: HALF 24", () -> x.lies(0, 24));
        Checks.badArgument("13: HALF -1", () -> x.lies(0, -1));
        Checks.badArgument("14: HALF 24", () -> x.waits(24));
        Checks.badArgument("14: HALF -1", () -> x.waits(-1));
        Checks.due("43: NoSuchElementException", 4, () -> x.status(0));
        Checks.due("43: IllegalArgumentException", 8, () -> x.status(1));
    }
}
