/** Promises 21 to 36: STILL, GIVEN, JUST, BEST OFF, TURNS, LOTS, SUMMERS, FITS. */
public final class ChairsTest {
    private static final String THREE = "chair 3 1;chair 2 2;guest 6 8 14 1;guest 7 8 20 2;guest 10 10 16 0;";

    private ChairsTest() {
    }

    public static void main(String[] args) {
        promise21();
        promise22();
        promise23To25();
        given8();
        promise26();
        promise27And28();
        promise29();
        promise30();
        promise31();
        promise31Draws();
        promise32();
        promise33();
        promise34();
        promise35();
        promise36();
        askedFirst();
        Checks.end();
    }

    private static PoolTowels with(String pool) {
        PoolTowels x = new PoolTowels();
        Feeding.pool(x, pool);
        return x;
    }

    private static void still(PoolTowels x, int n, int many, int first) {
        Checks.due("21: still(" + n + ", 0)", many, () -> x.still(n, 0));
        Checks.due("21: still(" + n + ", 1)", first, () -> x.still(n, 1));
    }

    private static void promise21() {
        still(new PoolTowels(), 8, 1, 0);
        // alone: all of 0 to 5 are alike to one who sleeps for nothing, later ones cost a HALF on the CHAIR
        still(with("chair 1 1;guest 0 5 9 0;"), 8, 6, 0);
        // each HALF of sleep costs: only as late as he may
        still(with("chair 1 1;guest 7 5 9 1;"), 8, 3, 5);
        still(with("chair 1 1;guest 7 5 9 2;"), 8, 1, 7);
        still(with("chair 1 1;guest 7 5 9 2;"), 2, 1, 1);
        // two for one CHAIR that is worth 9 to who comes first, sleep dear: nobody rests
        still(with("chair 1 1;guest 3 3 12 4;guest 3 3 12 4;"), 8, 0, -1);
        still(with("chair 0 0;guest 0 1 2 0;guest 0 1 2 0;guest 0 1 2 0;guest 0 1 2 0;"), 8, 4096, 0);
        // the hotel, the hire and the wakings count as they are
        PoolTowels x = with("chair 1 1;guest 0 5 9 0;");
        x.hotel(2, 2);
        x.hire(1);
        // by 1 or 2 he loses his towel in 4, by 0 in 2, and takes it again in 5 for one more; 3, 4 and 5 keep it
        still(x, 8, 3, 3);
        x.wakes(0, 5);
        still(x, 8, 3, 3);
        x.undo();
        x.undo();
        x.undo();
        still(x, 8, 6, 0);
        // a LOT leaves no order behind
        PoolTowels two = with("chair 3 0;guest 1 1 2 2;guest 0 1 2 0;");
        still(two, 2, 1, 0);
        two.lot(6, 0);
        two.hire(0);
        still(two, 2, 1, 0);
        two.lot(6, 0);
        Checks.due("22: GUEST 0 goes first", 1, () -> two.net(0, 0));
        PoolTowels alike = with("chair 1 0;guest 0 0 1 0;guest 0 1 3 0;");
        Checks.due("31: GUEST 1 goes first", 2, () -> alike.lot(6, 0));
        Checks.due("29: GUEST 0 goes first", 3, () -> alike.off(1));
        Checks.badArgument("21: n 1", () -> x.still(1, 0));
        Checks.badArgument("21: n 9", () -> x.still(9, 0));
        Checks.badArgument("21: what 2", () -> x.still(2, 2));
        Checks.badArgument("21: what -1", () -> x.still(2, -1));
        PoolTowels five = with("guest 0 1 2 0;".repeat(5));
        Checks.badState("21: 5 GUESTS", () -> five.still(2, 0));
        Checks.badArgument("21: n is looked at first", () -> five.still(9, 0));
        Checks.due("43: IllegalStateException", 1, () -> five.status(2));
        Checks.due("43: IllegalArgumentException", 1, () -> five.status(1));
    }

    private static void promise22() {
        PoolTowels x = with("chair 1 0;guest 5 1 4 1;guest 5 1 4 1;hire 1;");
        Checks.due("22: GUEST 0 first", -2, () -> x.net(0, 12));
        Checks.due("22: GUEST 1 then", -3, () -> x.net(1, 12));
        Checks.due("22: GUEST 0 later", -2, () -> x.net(0, 31));
        Checks.due("22: alike: GUEST 0 has it", -2, () -> x.net(0, 33));
        Checks.due("22: GUEST 1 has not", -2, () -> x.net(1, 33));
        Checks.due("22: leading 0", -3, () -> x.net(0, 9));
        Checks.due("22: too late", 0, () -> x.net(1, 9));
        Checks.badArgument("22: three digits", () -> x.net(0, 100));
        Checks.badArgument("22: below 0", () -> x.net(0, -1));
        Checks.noElement("22: GUEST 2", () -> x.net(2, 100));
        PoolTowels y = with("chair 1 1;" + "guest 0 0 23 0;".repeat(8));
        Checks.due("22: eight digits", 23, () -> y.net(7, 99999990));
        Checks.due("22: GUEST 0 is the highest", 22, () -> y.net(0, 19999999));
        Checks.badArgument("22: nine digits", () -> y.net(0, 100000000));
        Checks.badArgument("22: ten digits", () -> y.net(0, Integer.MAX_VALUE));
        Checks.badArgument("22: the least", () -> y.net(0, Integer.MIN_VALUE));
    }

    private static void given(PoolTowels x, int most, int... gets) {
        Checks.due("23: given", most, x::given);
        for (int g = 0; g < gets.length; g++) {
            int guest = g;
            Checks.due("24: gets(" + g + ")", gets[g], () -> x.gets(guest));
        }
    }

    private static void promise23To25() {
        PoolTowels x = with(THREE + "goes 4;off 2;hire 1;");
        given(x, 38, 0, 1, -1);
        Checks.due("25: waste", -2, x::waste);
        Checks.noElement("24: GUEST 3", () -> x.gets(3));
        Checks.noElement("24: GUEST -1", () -> x.gets(-1));
        // of alike ways the first: none, then CHAIRS by numbers
        given(with("chair 1 1;guest 0 1 5 0;guest 0 1 5 0;"), 4, -1, 0);
        given(with("chair 1 1;chair 1 1;guest 0 1 5 0;"), 4, 0);
        given(with("chair 0 0;guest 0 1 5 0;"), 0, -1);
        given(with("chair 1 1;chair 1 1;guest 0 1 5 0;guest 0 1 5 0;guest 0 1 5 0;"), 8, -1, 0, 1);
        given(with("guest 0 1 5 0;"), 0, -1);
        // he who comes first has the better one of them, yet it is worth more to the other
        PoolTowels y = with("chair 5 5;chair 4 4;guest 8 8 10 0;guest 9 9 20 0;");
        given(y, 63, 1, 0);
        Checks.due("25: 10 of 63 - 10 - 44", 9, y::waste);
        // GIVEN hangs on the POOL alone, WASTE on the DAY
        y.wakes(1, 0);
        given(y, 63, 1, 0);
        Checks.due("25: none is wasted", 0, y::waste);
    }

    private static void given8() {
        // each GUEST has one CHAIR of his own that is worth most to him: the sums hold by their places
        StringBuilder pool = new StringBuilder();
        for (int i = 0; i < 8; i++) {
            pool.append("chair ").append(i + 1).append(" 0;");
        }
        for (int i = 0; i < 8; i++) {
            pool.append("guest 0 ").append(i).append(" 12 0;");
        }
        // the longest lies on the dearest: 8*12 + 7*11 + .. + 1*5
        given(with(pool.toString()), 8 * 12 + 7 * 11 + 6 * 10 + 5 * 9 + 4 * 8 + 3 * 7 + 2 * 6 + 5,
            7, 6, 5, 4, 3, 2, 1, 0);
        PoolTowels x = with(pool.toString());
        // a ninth of 9: 9*12 + 8*11 + .. + 2*5 instead, 12 + 11 + .. + 5 more
        Checks.due("26: a ninth CHAIR", 68, () -> x.more(9, 9));
        given(x, 348, 7, 6, 5, 4, 3, 2, 1, 0);
        Feeding.pool(x, "chair 1 1;guest 0 1 5 0;");
        given(x, 4, 0);
    }

    private static void promise26() {
        PoolTowels x = with(THREE);
        Checks.due("26: more(9, 9)", 96, () -> x.more(9, 9));
        Checks.due("26: more(0, 0)", 0, () -> x.more(0, 0));
        // GUEST 0 changes to it (12 for 14), GUEST 2 has his (10)
        Checks.due("26: more(3, 0)", 8, () -> x.more(3, 0));
        Checks.due("26: more(0, 1)", 4, () -> x.more(0, 1));
        Checks.due("26: without CHAIRS", 36, () -> with("guest 0 1 5 0;").more(9, 0));
        Checks.due("26: without GUESTS", 0, () -> with("chair 1 1;").more(9, 9));
        Checks.due("26: for all there is one", 0, () -> with("chair 9 9;guest 0 1 5 0;").more(9, 9));
        Checks.badArgument("26: A 10", () -> x.more(10, 0));
        Checks.badArgument("26: B 10", () -> x.more(0, 10));
        Checks.badArgument("26: A -1", () -> x.more(-1, 0));
        Checks.badArgument("26: B -1", () -> x.more(0, -1));
    }

    private static void promise27And28() {
        PoolTowels x = with(THREE);
        int[][] wants = {{0, 3}, {12, 3}, {13, 2}, {14, 2}, {15, 1}, {24, 1}, {25, 0}, {999, 0}};
        for (int[] one : wants) {
            Checks.due("27: want(" + one[0] + ")", one[1], () -> x.want(one[0]));
        }
        Checks.due("28: the least", 13, () -> x.just(0));
        Checks.due("28: the greatest", 14, () -> x.just(1));
        PoolTowels free = with("chair 1 1;chair 1 1;guest 0 1 5 0;");
        Checks.due("28: too many CHAIRS", -1, () -> free.just(0));
        Checks.due("28: too many CHAIRS", -1, () -> free.just(1));
        PoolTowels alike = with("chair 1 1;guest 0 1 5 0;guest 0 2 6 0;");
        Checks.due("28: alike GUESTS", -1, () -> alike.just(0));
        PoolTowels one = with("chair 1 1;guest 0 1 5 0;");
        Checks.due("28: from 0", 0, () -> one.just(0));
        Checks.due("28: to its worth", 4, () -> one.just(1));
        PoolTowels none = with("guest 0 1 5 0;");
        Checks.due("27: no CHAIR", 0, () -> none.want(0));
        Checks.due("28: none wants none", 0, () -> none.just(0));
        Checks.due("28: at any price", 999, () -> none.just(1));
        Checks.badArgument("27: -1", () -> x.want(-1));
        Checks.badArgument("27: 1000", () -> x.want(1000));
        Checks.badArgument("28: what 2", () -> x.just(2));
        Checks.badArgument("28: what -1", () -> x.just(-1));
    }

    private static void promise29() {
        // by L 1 or 2 the towel of GUEST 0 is off in 4 and GUEST 1 lies from 5 on
        PoolTowels x = with("chair 1 2;guest 2 10 12 0;guest 5 5 11 0;goes 4;off 9;");
        Checks.due("29: as it is", 2, () -> x.sums(0));
        Checks.due("29: the L", 1, () -> x.off(0));
        Checks.due("29: what is got", 7, () -> x.off(1));
        Checks.due("29: L stays", 9, () -> x.told(3));
        // here it is better to leave it: who comes late on has no use for the CHAIR
        PoolTowels y = with("chair 9 1;guest 2 6 12 0;guest 4 11 20 0;goes 4;");
        Checks.due("29: the least of the best", 3, () -> y.off(0));
        Checks.due("29: GUEST 0 has 6 * 9, GUEST 1 8 * 1", 62, () -> y.off(1));
        // GUEST 1 has it from 4 to 7, GUEST 0 from 8 to 11, GUEST 1 from 12 to 19
        Checks.due("29: by 2", 44, () -> y.sums(0));
        // on another DAY, by how all come on it
        Feeding.habit(y, 0, "4");
        y.day(1);
        Checks.due("29: on DAY 1", 1, () -> y.off(0));
        Checks.due("29: on DAY 1", 62, () -> y.off(1));
        Checks.badArgument("29: what 2", () -> y.off(2));
        Checks.badArgument("29: what -1", () -> y.off(-1));
    }

    private static void promise30() {
        PoolTowels x = with(THREE);
        int[] due = {1, 1, 0, 1, 1, 0};
        for (int n = 1; n <= 6; n++) {
            int days = n;
            Checks.due("30: turnsOf(" + n + ")", due[n - 1], () -> x.turnsOf(days));
        }
        Checks.due("30: turnsOf(99)", 0, () -> x.turnsOf(99));
        Checks.due("30: without GUESTS", 0, () -> with("chair 1 1;").turnsOf(5));
        Checks.due("30: without CHAIRS", 0, () -> with("guest 0 1 2 0;").turnsOf(5));
        Checks.due("30: more CHAIRS than GUESTS", 0,
            () -> with("chair 1 1;chair 1 1;chair 1 1;guest 0 1 2 0;guest 0 1 2 0;").turnsOf(1));
        // 4 GUESTS, 6 CHAIRS: each has one each DAY
        Checks.due("30: one at most", 0, () -> with("chair 1 1;".repeat(6) + "guest 0 1 2 0;".repeat(4)).turnsOf(3));
        Checks.badArgument("30: 0", () -> x.turnsOf(0));
        Checks.badArgument("30: 100", () -> x.turnsOf(100));
    }

    private static void promise31() {
        // SEED 5: DRAW is 18655, odd: no change; SEED 6: 1103515245*6+12345 wraps to 2326136519, DRAW is 2726, even
        PoolTowels x = with("chair 1 0;guest 0 1 2 0;guest 0 2 5 0;");
        Checks.due("31: SEED 5, who has one", 3, () -> x.lot(5, 1));
        Checks.due("31: got", 4, () -> x.lot(5, 0));
        Checks.due("31: idle", 1, () -> x.lot(5, 2));
        Checks.due("31: SEED 6, who has one", 2, () -> x.lot(6, 1));
        Checks.due("31: got", 3, () -> x.lot(6, 0));
        Checks.due("31: idle", 2, () -> x.lot(6, 2));
        Checks.due("31: the DAY is by number", 4, () -> x.sums(0));
        // those who wait from one HALF on go by the LOT too
        PoolTowels y = with("chair 1 1;guest 1 1 9 0;guest 1 1 9 0;guest 0 0 4 0;");
        Checks.due("31: either has 5", 9, () -> y.lot(77, 0));
        Checks.badArgument("31: what 3", () -> x.lot(5, 3));
        Checks.badArgument("31: what -1", () -> x.lot(5, -1));
        // all come as they do on the DAY
        Feeding.habit(x, 1, "1");
        x.day(1);
        Checks.due("31: alone in HALF 0, he leaves in 2", 3, () -> x.lot(6, 1));
    }

    /** Who has the one CHAIR if all of eight come at once is the first of the order. */
    private static void promise31Draws() {
        PoolTowels x = with("chair 1 1;" + "guest 0 0 1 0;".repeat(8));
        for (int seed : new int[] {0, 1, 2, 3, 99, -1, Integer.MAX_VALUE, Integer.MIN_VALUE}) {
            int[] order = {0, 1, 2, 3, 4, 5, 6, 7};
            long s = seed & 0xffffffffL;
            for (int i = 7; i >= 1; i--) {
                s = (s * 1103515245L + 12345L) % 4294967296L;
                int j = (int) (s / 65536 % 32768 % (i + 1));
                int was = order[i];
                order[i] = order[j];
                order[j] = was;
            }
            Checks.due("31: LOT by " + seed, 1 << order[0], () -> x.lot(seed, 1));
        }
    }

    private static void promise32() {
        PoolTowels x = with("chair 1 0;guest 0 1 2 0;guest 0 1 2 0;");
        Checks.due("32: SEED 5", 1, () -> x.lucky(0, 5, 1));
        Checks.due("32: SEED 6", 0, () -> x.lucky(0, 6, 1));
        Checks.due("32: both", 1, () -> x.lucky(0, 5, 2));
        Checks.due("32: of 40", 40, () -> x.lucky(0, 100, 40) + x.lucky(1, 100, 40));
        int most = Integer.MAX_VALUE;
        Checks.due("32: SEEDS wrap", 1, () -> x.lucky(0, most, 2) == (x.lot(most, 1) & 1) + (x.lot(most + 1, 1) & 1) ? 1 : 0);
        Checks.noElement("32: GUEST 2", () -> x.lucky(2, 0, 0));
        Checks.badArgument("32: 0", () -> x.lucky(0, 0, 0));
        Checks.badArgument("32: 41", () -> x.lucky(0, 0, 41));
    }

    private static void promise33() {
        PoolTowels x = with("chair 1 0;guest 3 1 4 0;guest 3 1 4 0;");
        Feeding.habit(x, 0, "if got = 0 then mine - 1 else mine");
        // SEEDS 5, -> 1222621274, -> .. : the same SEED goes on from DAY to DAY
        int seed = 5;
        int mine = 3;
        int[] often = new int[2];
        int idle = 0;
        int got = 0;
        for (int day = 0; day < 6; day++) {
            seed = seed * 1103515245 + 12345;
            boolean isFirst = (seed >>> 16 & 0x7fff) % 2 == 1;
            if (mine < 3 || isFirst) {
                often[0]++;
                got += 4 - Math.max(1, mine);
                idle += Math.max(0, 1 - mine);
            } else {
                often[1]++;
                got += 1;
                mine--;
            }
            int days = day + 1;
            int[] due = {got, idle, often[1] > often[0] ? 1 : 0};
            for (int what = 0; what < 3; what++) {
                int w = what;
                Checks.due("33: summer(5, " + days + ", " + w + ")", due[w], () -> x.summer(5, days, w));
            }
        }
        Checks.due("33: idle", 12, () -> with("chair 1 0;guest 3 5 6 0;").summer(9, 6, 1));
        Feeding.habit(x, 0, "2 - day % 2");
        Checks.due("33: sleep lost on DAY 0", 0, () -> x.summer(5, 1, 3));
        Checks.due("33: on DAY 1", 2, () -> x.summer(5, 2, 3));
        Checks.due("33: on DAY 2", 1, () -> x.summer(5, 3, 3));
        Checks.due("33: the first of alike ones", 0, () -> with("guest 0 1 2 0;guest 0 1 2 0;").summer(1, 60, 2));
        Checks.due("33: no GUESTS", -1, () -> with("chair 1 1;").summer(1, 60, 2));
        Checks.badArgument("33: 0 DAYS", () -> x.summer(1, 0, 0));
        Checks.badArgument("33: 61 DAYS", () -> x.summer(1, 61, 0));
        Checks.badArgument("33: what 4", () -> x.summer(1, 1, 4));
        Checks.badArgument("33: what -1", () -> x.summer(1, 1, -1));
        Checks.due("33: the DAY stays", 0, () -> x.told(5));
    }

    private static void promise34() {
        PoolTowels x = with("chair 5 5;guest 10 12 20 1;guest 11 12 20 1;guest 9 12 20 1;");
        Feeding.habit(x, 1, "mine - 1");
        Feeding.habit(x, 2, "if mine > 9 then mine - 1 else 9");
        Checks.due("34: without a BOOK all fit", 7, () -> x.fits(0));
        Feeding.book(x, "1 0 9;2 1 9;2 2 9;");
        // GUEST 0 wakes in 10: by 1's he comes in 9 on DAY 1, by 2's too
        Checks.due("34: GUEST 0", 6, () -> x.fits(0));
        // GUEST 1 wakes in 11: 10, 9 by his and by 2's
        Checks.due("34: GUEST 1", 6, () -> x.fits(1));
        // GUEST 2 wakes in 9: by 0's 9, by 1's 7, by his 9
        Checks.due("34: GUEST 2", 5, () -> x.fits(2));
        Feeding.book(x, "1 0 9;2 0 8;60 0 0;");
        Checks.due("34: all lines about him", 2, () -> x.fits(0));
        Feeding.book(x, "0 0 9;");
        Checks.due("34: none", 0, () -> x.fits(0));
        Checks.noElement("34: GUEST 3", () -> x.fits(3));
        // what was supposed of one is not so for the next
        PoolTowels z = with("chair 5 5;guest 2 12 20 1;guest 20 21 22 1;guest 20 21 22 1;");
        Feeding.habit(z, 1, "first + 9");
        Feeding.habit(z, 2, "20");
        Feeding.book(z, "2 1 11;");
        Checks.due("34: no line about GUEST 0", 7, () -> z.fits(0));
        Checks.due("34: GUEST 1 comes nine HALVES behind GUEST 0", 2, () -> z.fits(1));
        // others go on with theirs, by what he does then
        PoolTowels y = with("chair 5 5;guest 10 12 20 1;guest 11 12 20 1;");
        Feeding.habit(y, 1, "first - 1");
        Feeding.book(y, "1 0 9;2 0 7;");
        Checks.due("34: both come a HALF ahead of the first", 0, () -> y.fits(0));
        Feeding.book(y, "1 0 9;2 0 8;3 0 7;");
        Checks.due("34: both come a HALF ahead of the first", 2, () -> y.fits(0));
        Checks.due("34: HABITS stay", 0, y::right);
    }

    private static void promise35() {
        PoolTowels x = with("chair 5 5;guest 10 12 20 1;guest 11 12 20 1;");
        Checks.due("35: no lines", 0, x::right);
        Feeding.book(x, "0 0 10;0 1 11;60 1 11;");
        Checks.due("35: all", 3, x::right);
        Feeding.book(x, "0 0 10;0 1 12;60 1 11;");
        Checks.due("35: till the first that is not so", 1, x::right);
        Feeding.book(x, "0 0 9;0 1 11;60 1 11;");
        Checks.due("35: none", 0, x::right);
        Feeding.habit(x, 1, "mine - 1");
        Feeding.book(x, "0 1 11;3 1 8;2 1 9;60 1 0;59 0 9;");
        Checks.due("35: by HABITS", 4, x::right);
    }

    /** Each call knows what it needs, whatever was asked ahead of it. */
    private static void askedFirst() {
        String day = THREE + "goes 4;off 2;hire 1;";
        Checks.due("23: asked first", 38, () -> with(day).given());
        Checks.due("24: asked first", 1, () -> with(day).gets(1));
        Checks.due("25: asked first", -2, () -> with(day).waste());
        Checks.due("26: asked first", 96, () -> with(day).more(9, 9));
        Checks.due("27: asked first", 2, () -> with(day).want(13));
        Checks.due("28: asked first", 13, () -> with(day).just(0));
        Checks.due("28: asked first", 14, () -> with(day).just(1));
        Checks.due("29: asked first", 40, () -> with(day).off(1));
        Checks.due("31: asked first", 40, () -> with(day).lot(5, 0));
        Checks.due("32: asked first", 3, () -> with(day).lucky(0, 5, 3));
        Checks.due("36: asked first", 3, () -> with(day).early(7));
        PoolTowels x = with("chair 1 1;guest 0 0 5 0;guest 9 9 10 0;");
        Checks.due("32: GUEST 1 too", 1, () -> x.lucky(1, 5, 1));
        Feeding.habit(x, 0, "22");
        x.day(1);
        Checks.due("32: on DAY 1 he comes too late", 0, () -> x.lucky(0, 5, 9));
        Checks.due("28: a CHAIR worth nothing", 0, () -> with("chair 0 0;guest 0 1 5 0;").just(1));
    }

    private static void promise36() {
        PoolTowels x = with(THREE);
        int[] due = {0, 0, 0, 0, 0, 0, 1, 3, 3, 3, 7};
        for (int half = 0; half < due.length; half++) {
            int h = half;
            Checks.due("36: early(" + h + ")", due[h], () -> x.early(h));
        }
        Checks.due("36: early(23)", 7, () -> x.early(23));
        Feeding.habit(x, 2, "0");
        x.day(1);
        Checks.due("36: on DAY 1", 4, () -> x.early(0));
        Checks.badArgument("36: 24", () -> x.early(24));
        Checks.badArgument("36: -1", () -> x.early(-1));
    }
}
