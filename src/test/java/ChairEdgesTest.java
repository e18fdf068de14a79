import java.util.function.Supplier;

/** The boundary cases of promises 21 to 36, and of the Terms that they use: a method for each sentence, which stands above it. */
public final class ChairEdgesTest {
    private static final String THREE = "chair 3 1;chair 2 2;guest 6 8 14 1;guest 7 8 20 2;guest 10 10 16 0;";

    private ChairEdgesTest() {
    }

    public static void main(String[] args) {
        stillN();
        stillGuests();
        stillMoreNet();
        stillFirst();
        netDigits();
        netAllGuests();
        given();
        ofAlikeWaysTheFirst();
        gets();
        waste();
        moreRange();
        moreOneChair();
        wantNoLess();
        wantWithoutChairs();
        justLeastAndGreatest();
        justNone();
        offRange();
        offTheLeast();
        offOnTheDay();
        turnsRange();
        turnsOneAtMost();
        lotRange();
        lotDraws();
        lotFromTheLastDown();
        lotOfOneHalf();
        luckyRange();
        luckyWraps();
        byTheLThatIs();
        hadButNeverLay();
        summerRange();
        summerMostOften();
        summerSeedGoesOn();
        summerHabits();
        summerLastDay();
        fitsWithout();
        fitsAll();
        fitsOthers();
        rightFromTheFirst();
        rightByDays();
        early();
        Checks.end();
    }

    private static Supplier<PoolTowels> three() {
        return () -> Edges.with(THREE);
    }

    private static void still(PoolTowels x, int n, int many, int first) {
        Checks.due("21: still(" + n + ", 0)", many, () -> x.still(n, 0));
        Checks.due("21: still(" + n + ", 1)", first, () -> x.still(n, 1));
    }

    // 21, Terms: "each comes in a HALF of 0 to n less 1, n 2 to 8"
    private static void stillN() {
        Edges.within("21: still of n", 2, 8, three(), (x, n) -> x.still(n, 0));
        Edges.within("21: still, what", 0, 1, three(), (x, what) -> x.still(2, what));
        // sleep costs: as late as he may, up to n less 1
        for (int n = 2; n <= 8; n++) {
            still(Edges.with("chair 1 1;guest 23 20 21 9;"), n, 1, n - 1);
        }
        // without a CHAIR and without a cost all mornings are STILL
        for (int n = 2; n <= 8; n++) {
            still(Edges.with("guest 0 1 2 0;guest 0 1 2 0;guest 0 1 2 0;guest 0 1 2 0;"), n, n * n * n * n, 0);
        }
        PoolTowels x = Edges.with("guest 0 1 2 0;guest 0 1 2 0;");
        still(x, 8, 64, 0);
        still(x, 2, 4, 0);
        still(x, 8, 64, 0);
        still(x, 5, 25, 0);
    }

    // 21: "IllegalStateException: more than 4 GUESTS."
    private static void stillGuests() {
        int[] due = {1, 2, 4, 8, 16};
        for (int many = 0; many <= 8; many++) {
            PoolTowels x = Edges.with("guest 0 1 2 0;".repeat(many));
            if (many <= 4) {
                int mornings = due[many];
                Checks.due("21: " + many + " GUESTS", mornings, () -> x.still(2, 0));
                Checks.due("21: the first", 0, () -> x.still(2, 1));
            } else {
                Edges.badState("21: " + many + " GUESTS, many", x, () -> x.still(2, 0));
                Edges.badState("21: " + many + " GUESTS, the first", x, () -> x.still(8, 1));
                Edges.badArgument("21: a wrong n is looked at first", x, () -> x.still(9, 0));
                Edges.badArgument("21: a wrong what is looked at first", x, () -> x.still(2, 2));
            }
        }
        // CHAIRS may be more
        Checks.due("21: 8 CHAIRS", 2, () -> Edges.with("chair 1 1;".repeat(8) + "guest 0 5 9 0;").still(2, 0));
    }

    // Terms: "at which nobody would have more NET by coming in another one of these, others as they are"
    private static void stillMoreNet() {
        // alike is not more
        still(Edges.with("chair 1 1;guest 0 5 9 0;"), 8, 6, 0);
        still(Edges.with("chair 1 1;guest 7 5 9 1;"), 8, 3, 5);
        still(Edges.with("chair 1 1;guest 7 5 9 2;"), 8, 1, 7);
        // two for one CHAIR: GUEST 0 has it in 0, whenever the other comes; in 1 either would rather come in 0
        still(Edges.with("chair 1 1;guest 0 1 3 0;guest 0 1 3 0;"), 2, 2, 0);
        // none is STILL
        still(Edges.with("chair 1 1;guest 3 3 12 4;guest 3 3 12 4;"), 8, 0, -1);
        // the hire makes the CHAIR worse than none
        still(Edges.with("chair 1 1;guest 0 1 3 0;hire 3;"), 8, 5, 3);
        still(Edges.with("chair 1 1;guest 0 1 3 0;hire 2;"), 8, 7, 0);
    }

    // 21: "1 the first (GUEST by GUEST) as digits to the base 10 (NONE)"
    private static void stillFirst() {
        // GUEST 0 sleeps for nothing, GUEST 1 as long as he may
        still(Edges.with("chair 1 1;chair 1 1;guest 0 7 9 0;guest 9 7 9 9;"), 8, 8, 7);
        still(Edges.with("chair 1 1;chair 1 1;guest 9 7 9 9;guest 0 7 9 0;"), 8, 8, 70);
        still(Edges.with("guest 9 7 9 9;guest 9 7 9 9;guest 9 7 9 9;guest 9 7 9 9;"), 8, 1, 7777);
        still(Edges.with("guest 9 7 9 9;guest 0 7 9 0;guest 0 7 9 0;guest 9 7 9 9;"), 8, 64, 7007);
        still(Edges.with("guest 1 7 9 9;guest 2 7 9 9;guest 3 7 9 9;guest 4 7 9 9;"), 5, 4 * 3 * 2, 1234);
    }

    // 22: "(as digits to the base 10, GUEST 0's the highest; ..). IllegalArgumentException: more digits."
    private static void netDigits() {
        Edges.elements("22: net", 3, three(), (x, g) -> x.net(g, 999));
        Edges.noElements("22: net of more digits", 3, three(), (x, g) -> x.net(g, 1000));
        Edges.within("22: three digits", 0, 999, three(), (x, halves) -> x.net(2, halves));
        Edges.within("22: one digit", 0, 9, () -> Edges.with("guest 0 1 2 0;"), (x, halves) -> x.net(0, halves));
        Edges.within("22: eight digits", 0, 99999999, () -> Edges.with("guest 0 1 2 0;".repeat(8)),
            (x, halves) -> x.net(7, halves));
        PoolTowels x = Edges.with("guest 10 1 2 1;guest 10 1 2 2;guest 10 1 2 3;");
        Checks.due("22: GUEST 0", -9, () -> x.net(0, 129));
        Checks.due("22: GUEST 1", -16, () -> x.net(1, 129));
        Checks.due("22: GUEST 2", -3, () -> x.net(2, 129));
        Checks.due("22: a leading 0", -10, () -> x.net(0, 29));
        Checks.due("22: all 0", -30, () -> x.net(2, 0));
    }

    // 22: "8 GUESTS' digits 0 to 9"
    private static void netAllGuests() {
        StringBuilder pool = new StringBuilder();
        for (int g = 0; g < 8; g++) {
            pool.append("guest 10 1 2 1;");
        }
        int[] due = {-1, -2, -3, -4, -5, -6, -7, -10};
        for (int g = 0; g < 8; g++) {
            int guest = g;
            Checks.due("22: GUEST " + g + " of 98765430", due[g], () -> Edges.with(pool.toString()).net(guest, 98765430));
        }
        // the hotel, the hire and the order by number count
        PoolTowels x = Edges.with("chair 2 2;guest 0 4 9 0;guest 0 4 9 0;goes 2;off 2;hire 3;");
        Checks.due("22: GUEST 0 lays first", 10 - 3, () -> x.net(0, 34));
        Checks.due("22: GUEST 1 goes without", 0, () -> x.net(1, 34));
        Checks.due("22: both in 4", 7, () -> x.net(0, 44));
        Checks.due("22: off in 2, another has it in 3", -3, () -> x.net(0, 3));
        Checks.due("22: the DAY is no part of it", 1, () -> x.day(3) == 0 && x.net(0, 34) == 7 && x.told(5) == 3 ? 1 : 0);
    }

    private static void given(String pool, int most, int... gets) {
        PoolTowels x = Edges.with(pool);
        Checks.due("23: given of " + pool, most, x::given);
        for (int g = 0; g < gets.length; g++) {
            int guest = g;
            Checks.due("24: gets(" + g + ") of " + pool, gets[g], () -> x.gets(guest));
        }
    }

    // 23, Terms: "each CHAIR to one GUEST at most, each GUEST one at most .. the most WORTH together (from HALF F on)"
    private static void given() {
        given("", 0);
        given("chair 9 9;", 0);
        given("guest 0 0 23 0;", 0, -1);
        given("chair 9 9;guest 23 0 23 0;", 207, 0);
        given("chair 9 9;chair 9 9;guest 0 0 23 0;", 207, 0);
        given("chair 9 9;guest 0 0 23 0;guest 0 0 22 0;", 207, 0, -1);
        given("chair 9 9;".repeat(8) + "guest 0 0 23 0;".repeat(8), 8 * 207, 0, 1, 2, 3, 4, 5, 6, 7);
        // the best one to both is given to the one who loses more by it
        given("chair 5 0;chair 4 0;guest 0 0 10 0;guest 0 0 5 0;", 70, 0, 1);
        given("chair 5 0;chair 0 4;guest 0 0 10 0;guest 0 5 23 0;", 94, 0, 1);
        given("chair 5 0;chair 4 0;guest 0 0 5 0;guest 0 0 10 0;", 70, 1, 0);
        given("chair 5 1;chair 0 1;guest 0 10 13 0;guest 0 0 12 0;", 61, 1, 0);
    }

    // Terms: "of alike ways the first (GUEST by GUEST: none ahead of CHAIRS, by numbers)"
    private static void ofAlikeWaysTheFirst() {
        given("chair 1 1;guest 0 1 5 0;guest 0 1 5 0;", 4, -1, 0);
        given("chair 0 0;guest 0 1 5 0;", 0, -1);
        given("chair 0 0;chair 1 1;guest 0 1 5 0;guest 0 1 5 0;", 4, -1, 1);
        given("chair 1 1;chair 1 1;guest 0 1 5 0;", 4, 0);
        given("chair 1 1;chair 1 1;guest 0 1 5 0;guest 0 1 5 0;", 8, 0, 1);
        given("chair 2 2;chair 1 1;guest 0 1 5 0;guest 0 1 5 0;", 12, 0, 1);
        given("chair 1 1;chair 1 1;" + "guest 0 1 5 0;".repeat(4), 8, -1, -1, 0, 1);
        given("chair 1 0;chair 0 1;guest 0 0 12 0;guest 0 12 18 0;guest 0 12 18 0;", 18, 0, -1, 1);
    }

    // 24: "The CHAIR a GUEST is GIVEN; NONE."
    private static void gets() {
        Edges.elements("24: gets", 3, three(), PoolTowels::gets);
        PoolTowels x = Edges.with("chair 1 1;guest 0 1 5 0;");
        Checks.due("24: his", 0, () -> x.gets(0));
        x.day(9);
        x.wakes(0, 9);
        x.hire(99);
        x.hotel(1, 1);
        Checks.due("24: whenever he comes", 0, () -> x.gets(0));
        Feeding.pool(x, "guest 0 1 5 0;");
        Checks.due("24: none", -1, () -> x.gets(0));
    }

    // 25: "WASTE: that less all that was got."
    private static void waste() {
        Checks.due("25: nothing", 0, () -> new PoolTowels().waste());
        Checks.due("25: all", 207, () -> Edges.with("chair 9 9;guest 23 0 23 0;").waste());
        Checks.due("25: none", 0, () -> Edges.with("chair 9 9;guest 0 0 23 0;").waste());
        // one CHAIR serves two: more is got than GIVEN
        Checks.due("25: below 0", -20, () -> Edges.with("chair 2 2;guest 0 0 10 0;guest 10 10 20 0;").waste());
        PoolTowels x = Edges.with("chair 1 1;guest 0 0 10 0;");
        Feeding.habit(x, 0, "day");
        for (int d = 0; d < 12; d++) {
            int due = Math.min(d, 10);
            x.day(d);
            Checks.due("25: on DAY " + d, due, x::waste);
        }
    }

    // 26: "MORE (A, B 0 to 9)."
    private static void moreRange() {
        Edges.within("26: A", 0, 9, three(), (x, a) -> x.more(a, 0));
        Edges.within("26: B", 0, 9, three(), (x, b) -> x.more(9, b));
        Supplier<PoolTowels> full = () -> Edges.with("chair 1 1;".repeat(8) + "guest 0 0 23 0;".repeat(8));
        Edges.within("26: A of a ninth", 0, 9, full, (x, a) -> x.more(a, 0));
        Edges.within("26: B of a ninth", 0, 9, full, (x, b) -> x.more(9, b));
    }

    // Terms: "MORE: what GIVEN is more by one CHAIR more of A, B."
    private static void moreOneChair() {
        Checks.due("26: nobody", 0, () -> new PoolTowels().more(9, 9));
        Checks.due("26: the first CHAIR", 207, () -> Edges.with("guest 0 0 23 0;").more(9, 9));
        Checks.due("26: one for two", 207, () -> Edges.with("guest 0 0 23 0;guest 0 0 23 0;").more(9, 9));
        Checks.due("26: from F on, whenever he wakes", 207, () -> Edges.with("guest 23 0 23 0;").more(9, 9));
        Checks.due("26: A alone", 108, () -> Edges.with("guest 0 0 23 0;").more(9, 0));
        Checks.due("26: B alone", 99, () -> Edges.with("guest 0 0 23 0;").more(0, 9));
        Checks.due("26: worth nothing", 0, () -> Edges.with("guest 0 0 23 0;").more(0, 0));
        Checks.due("26: a better one", 46, () -> Edges.with("chair 7 7;guest 0 0 23 0;").more(9, 9));
        Checks.due("26: no better one", 0, () -> Edges.with("chair 7 7;guest 0 0 23 0;").more(7, 7));
        PoolTowels eight = Edges.with("chair 1 1;".repeat(8) + "guest 0 0 23 0;".repeat(8));
        Checks.due("26: a ninth", 8 * 23, () -> eight.more(9, 9));
        Checks.due("26: it was none", 8 * 23, eight::given);
        Checks.due("26: nor is it there", 8, () -> eight.told(0));
        Checks.due("26: a ninth as they are", 0, () -> eight.more(1, 1));
        Edges.noElement("26: no CHAIR 8", eight, () -> eight.chair(8, 0));
    }

    // 27: "How many WANT one at a price (0 to 999).", Terms: "worth no less (from F on)"
    private static void wantNoLess() {
        Edges.within("27: want", 0, 999, three(), PoolTowels::want);
        PoolTowels x = Edges.with("chair 9 9;chair 1 1;guest 0 0 23 0;guest 22 0 22 0;");
        int[][] due = {{0, 2}, {1, 2}, {198, 2}, {199, 1}, {207, 1}, {208, 0}, {999, 0}};
        for (int[] pair : due) {
            Checks.due("27: at " + pair[0], pair[1], () -> x.want(pair[0]));
        }
        Checks.due("27: a CHAIR worth nothing for nothing", 1, () -> Edges.with("chair 0 0;guest 0 1 2 0;").want(0));
        Checks.due("27: but not for 1", 0, () -> Edges.with("chair 0 0;guest 0 1 2 0;").want(1));
        Checks.due("27: all eight", 8, () -> Edges.with("chair 1 1;" + "guest 0 0 23 0;".repeat(8)).want(23));
        Checks.due("27: none of eight", 0, () -> Edges.with("chair 1 1;" + "guest 0 0 23 0;".repeat(8)).want(24));
        Checks.due("27: the best is the last", 1, () -> Edges.with("chair 1 1;chair 2 2;guest 0 0 23 0;").want(46));
        Checks.due("27: the best is the first", 1, () -> Edges.with("chair 2 2;chair 1 1;guest 0 0 23 0;").want(46));
    }

    // 27: without CHAIRS there is no best one, so nobody WANTS one
    private static void wantWithoutChairs() {
        PoolTowels x = Edges.with("guest 0 0 23 0;");
        Checks.due("27: none is for nothing", 0, () -> x.want(0));
        Checks.due("27: nor for 999", 0, () -> x.want(999));
        Checks.due("27: nobody", 0, () -> Edges.with("chair 1 1;").want(0));
    }

    private static void just(String pool, int least, int greatest) {
        PoolTowels x = Edges.with(pool);
        Checks.due("28: the least of " + pool, least, () -> x.just(0));
        Checks.due("28: the greatest of " + pool, greatest, () -> x.just(1));
    }

    // 28: "JUST: the least (what 0), the greatest (1)", Terms: "prices (0 to 999)"
    private static void justLeastAndGreatest() {
        Edges.within("28: just", 0, 1, three(), PoolTowels::just);
        just("", 0, 999);
        just("guest 0 0 23 0;", 0, 999);
        just("chair 1 1;guest 0 1 5 0;", 0, 4);
        just("chair 9 9;guest 0 0 23 0;", 0, 207);
        just("chair 0 0;guest 0 0 23 0;", 0, 0);
        just("chair 1 1;guest 0 1 5 0;guest 0 1 9 0;", 5, 8);
        just("chair 1 1;guest 0 1 5 0;guest 0 1 6 0;", 5, 5);
        just("chair 1 1;chair 1 1;guest 0 1 5 0;guest 0 1 6 0;", 0, 4);
        just("chair 1 1;chair 1 1;guest 0 1 5 0;guest 0 1 6 0;guest 0 1 9 0;", 5, 5);
    }

    // 28: "NONE: there is none."
    private static void justNone() {
        just("chair 1 1;", -1, -1);
        just("chair 1 1;chair 1 1;guest 0 1 5 0;", -1, -1);
        just("chair 1 1;guest 0 1 5 0;guest 0 2 6 0;", -1, -1);
        just("chair 1 1;chair 1 1;guest 0 1 5 0;guest 0 2 6 0;guest 0 3 7 0;", -1, -1);
    }

    private static void off(PoolTowels x, int best, int got) {
        Checks.due("29: the L", best, () -> x.off(0));
        Checks.due("29: what is got", got, () -> x.off(1));
    }

    // 29: "BEST OFF: 0 the L, 1 what is got then."
    private static void offRange() {
        Edges.within("29: off", 0, 1, three(), PoolTowels::off);
        off(new PoolTowels(), 1, 0);
        off(Edges.with("chair 1 1;guest 0 0 9 0;"), 1, 9);
        PoolTowels x = Edges.with(THREE + "goes 3;off 5;");
        x.off(0);
        Checks.due("29: L stays", 5, () -> x.told(3));
        Checks.due("29: it is no change", 0, () -> x.count(2));
    }

    // Terms: "the L (1 to 23) by which .. most is got together; of these the least"
    private static void offTheLeast() {
        // by L 1 or 2 the towel of GUEST 0 is off in 4 and GUEST 1 lies from 5 on
        off(Edges.with("chair 1 2;guest 2 10 12 0;guest 5 5 11 0;goes 4;off 9;"), 1, 7);
        // by L to 8 GUEST 1 takes it in 8 for a HALF of 1, from 9 on GUEST 0 keeps it for two of 9
        off(Edges.with("chair 9 1;guest 0 10 12 0;guest 8 20 21 0;goes 8;off 1;"), 9, 19);
        // the same, but the hotel goes by in 9, 18
        off(Edges.with("chair 9 1;guest 0 10 12 0;guest 9 20 21 0;goes 9;off 1;"), 10, 19);
        // without the hotel all are alike
        off(Edges.with("chair 9 1;guest 0 10 12 0;guest 8 20 21 0;off 9;"), 1, 19);
        // a CHAIR that is worth more is free by an L of 3, not of 4 or more: 3 to 1 are alike
        off(Edges.with("chair 5 5;guest 3 9 12 0;guest 6 6 9 0;goes 6;off 7;"), 1, 30);
    }

    // Terms: "on the DAY, all coming as they do on it"
    private static void offOnTheDay() {
        PoolTowels x = Edges.with("chair 9 1;guest 0 10 12 0;guest 8 20 21 0;goes 8;off 1;");
        Feeding.habit(x, 0, "if day = 1 then 1 else 11");
        x.day(1);
        off(x, 8, 19);
        x.day(2);
        // in 11 the CHAIR is GUEST 1's since 8, whatever L is
        off(x, 1, 1);
        // by L 1 his towel would be off in 8, and he would come otherwise on DAY 1; but he comes as he does by the L that is
        PoolTowels y = Edges.with("chair 1 1;guest 7 9 12 0;goes 8;off 9;");
        Feeding.habit(y, 0, "if off = 1 then 11 else 7");
        y.day(1);
        off(y, 1, 3);
    }

    // 30: "TURNS over DAYS 0 to n less 1 (n 1 to 99; 0 without GUESTS)."
    private static void turnsRange() {
        Edges.within("30: turnsOf", 1, 99, three(), PoolTowels::turnsOf);
        Edges.within("30: turnsOf without GUESTS", 1, 99, PoolTowels::new, PoolTowels::turnsOf);
        Checks.due("30: without GUESTS", 0, () -> Edges.with("chair 1 1;chair 1 1;").turnsOf(1));
        Checks.due("30: without CHAIRS", 0, () -> Edges.with("guest 0 1 2 0;guest 0 1 2 0;").turnsOf(99));
        Checks.due("30: one GUEST", 0, () -> Edges.with("chair 1 1;guest 0 1 2 0;").turnsOf(99));
        PoolTowels pair = Edges.with("chair 1 1;guest 0 1 2 0;guest 0 1 2 0;");
        for (int n = 1; n <= 99; n++) {
            int days = n;
            Checks.due("30: 1 CHAIR, 2 GUESTS, " + n, n % 2, () -> pair.turnsOf(days));
        }
        PoolTowels five = Edges.with("chair 1 1;".repeat(3) + "guest 0 1 2 0;".repeat(5));
        for (int n = 1; n <= 99; n++) {
            int days = n;
            Checks.due("30: 3 CHAIRS, 5 GUESTS, " + n, n % 5 == 0 ? 0 : 1, () -> five.turnsOf(days));
        }
        PoolTowels eight = Edges.with("chair 1 1;chair 1 1;" + "guest 0 1 2 0;".repeat(8));
        for (int n = 1; n <= 99; n++) {
            int days = n;
            Checks.due("30: 2 CHAIRS, 8 GUESTS, " + n, n % 4 == 0 ? 0 : 1, () -> eight.turnsOf(days));
        }
    }

    // Terms: "(a GUEST has one at most)"
    private static void turnsOneAtMost() {
        for (int chairs = 1; chairs <= 8; chairs++) {
            for (int guests = 1; guests <= chairs; guests++) {
                PoolTowels x = Edges.with("chair 1 1;".repeat(chairs) + "guest 0 1 2 0;".repeat(guests));
                for (int n : new int[] {1, 2, 3, 98, 99}) {
                    Checks.due("30: " + chairs + " CHAIRS, " + guests + " GUESTS, " + n, 0, () -> x.turnsOf(n));
                }
            }
        }
    }

    // 31: "0 all that is got, 1 GUESTS who have a CHAIR (bits), 2 IDLE."
    private static void lotRange() {
        Edges.within("31: lot", 0, 2, three(), (x, what) -> x.lot(7, what));
        for (int seed : new int[] {0, 1, -1, Integer.MAX_VALUE, Integer.MIN_VALUE}) {
            Checks.due("31: nobody by " + seed, 0, () -> new PoolTowels().lot(seed, 1));
            Checks.due("31: alone by " + seed, 1, () -> Edges.with("chair 1 1;guest 0 1 2 0;").lot(seed, 1));
            Checks.due("31: no CHAIR by " + seed, 0, () -> Edges.with("guest 0 1 2 0;").lot(seed, 1));
            Checks.due("31: all eight by " + seed, 255,
                () -> Edges.with("chair 1 1;".repeat(8) + "guest 0 1 2 0;".repeat(8)).lot(seed, 1));
        }
        PoolTowels x = Edges.with("chair 1 0;guest 0 1 2 0;guest 0 2 5 0;");
        // by SEED 6 both change places (its DRAW is even), by SEED 5 not
        int[][] due = {{5, 4, 3, 1}, {6, 3, 2, 2}};
        for (int[] row : due) {
            for (int what = 0; what < 3; what++) {
                int w = what;
                Checks.due("31: lot(" + row[0] + ", " + w + ")", row[w + 1], () -> x.lot(row[0], w));
            }
        }
        Checks.due("31: the DAY goes by number still", 4, () -> x.sums(0));
        Checks.due("31: and so NET does", 1, () -> x.net(0, 0));
        x.lot(6, 0);
        Checks.due("31: BEST OFF too", 4, () -> x.off(1));
        x.lot(6, 0);
        // but for 1 and 0 GUEST 0 lies in 1, and GUEST 1 has the CHAIR from 2 on
        still(x, 2, 3, 0);
        PoolTowels two = Edges.with("chair 3 0;guest 1 1 2 2;guest 0 1 2 0;");
        two.lot(6, 0);
        still(two, 2, 1, 0);
        // on the DAY that is, asked first of all
        PoolTowels y = Edges.with("chair 1 1;guest 0 0 5 0;guest 9 9 10 0;");
        Feeding.habit(y, 0, "3");
        y.day(1);
        Checks.due("31: got on DAY 1", 3, () -> y.lot(6, 0));
        y.day(0);
        Checks.due("31: got on DAY 0", 6, () -> y.lot(6, 0));
        Checks.due("31: who", 3, () -> y.lot(6, 1));
        Feeding.habit(y, 0, "5");
        y.day(1);
        Checks.due("31: who on DAY 1", 2, () -> y.lot(6, 1));
        Checks.due("32: too late", 0, () -> y.lucky(0, 6, 40));
        PoolTowels z = Edges.with("chair 1 1;guest 0 0 5 0;guest 9 9 10 0;");
        Feeding.habit(z, 0, "5");
        z.day(1);
        Checks.due("32: too late, asked first of all", 0, () -> z.lucky(0, 6, 40));
    }

    // Terms: "the SEED (32 bits) becomes itself times 1,103,515,245, and 12,345 (it wraps); its bits 16 to 30"
    private static void lotDraws() {
        PoolTowels x = Edges.with("chair 1 0;guest 0 1 2 0;guest 0 1 2 0;");
        int[] seeds = {0, 1, 2, 3, 4, 5, 6, 7, 99, 1000, -1, -2, 65535, 65536, -65536, 1 << 30, Integer.MAX_VALUE,
            Integer.MAX_VALUE - 1, Integer.MIN_VALUE, Integer.MIN_VALUE + 1, 123456789, -987654321};
        for (int seed : seeds) {
            Checks.due("31: LOT of two by " + seed, draw(seed) % 2 == 1 ? 1 : 2, () -> x.lot(seed, 1));
        }
        // three: the first DRAW by 3, the second by 2
        PoolTowels y = Edges.with("chair 1 0;guest 0 1 2 0;guest 0 1 2 0;guest 0 1 2 0;");
        for (int seed : seeds) {
            Checks.due("31: LOT of three by " + seed, 1 << order(seed, 3)[0], () -> y.lot(seed, 1));
        }
    }

    private static int next(int seed) {
        java.math.BigInteger all = java.math.BigInteger.valueOf(seed).multiply(java.math.BigInteger.valueOf(1103515245));
        return all.add(java.math.BigInteger.valueOf(12345)).intValue();
    }

    private static int draw(int seed) {
        return next(seed) >> 16 & 32767;
    }

    private static int[] order(int seed, int many) {
        int[] order = new int[many];
        for (int i = 0; i < many; i++) {
            order[i] = i;
        }
        int s = seed;
        for (int i = many - 1; i > 0; i--) {
            int j = draw(s) % (i + 1);
            s = next(s);
            int was = order[i];
            order[i] = order[j];
            order[j] = was;
        }
        return order;
    }

    // Terms: "from the last of the GUESTS on (by numbers at first) down to the second each changes places with the one at DRAW"
    private static void lotFromTheLastDown() {
        // so many CHAIRS for eight who come at once: the first so many of the order have one
        for (int chairs = 1; chairs <= 8; chairs++) {
            PoolTowels x = Edges.with("chair 1 1;".repeat(chairs) + "guest 0 0 1 0;".repeat(8));
            for (int seed = 40; seed < 60; seed++) {
                int by = seed;
                int bits = 0;
                int[] order = order(seed, 8);
                for (int i = 0; i < chairs; i++) {
                    bits |= 1 << order[i];
                }
                Checks.due("31: " + chairs + " CHAIRS by " + seed, bits, () -> x.lot(by, 1));
            }
        }
    }

    // Terms: "in (c) and (d) those of one HALF go by an order drawn by it, not by number"
    private static void lotOfOneHalf() {
        // those of another HALF do not: the earlier one is first by each SEED
        PoolTowels x = Edges.with("chair 1 1;guest 1 1 9 0;guest 0 1 9 0;");
        // in (d): two wait from 1 on, the one drawn first has it in 4; it is worth 5 to one and 8 to the other
        PoolTowels y = Edges.with("chair 1 1;guest 1 1 9 0;guest 1 1 12 0;guest 0 0 4 0;");
        // in (d): GUEST 0 began to wait ahead of GUEST 1
        PoolTowels z = Edges.with("chair 1 1;guest 1 1 9 0;guest 2 2 9 0;guest 0 0 4 0;");
        for (int seed = 0; seed < 12; seed++) {
            int by = seed;
            Checks.due("31: the earlier one by " + seed, 2, () -> x.lot(by, 1));
            int[] order = order(seed, 3);
            boolean first = at(order, 0) < at(order, 1);
            Checks.due("31: in (d) by " + seed, first ? 4 + 5 + 3 : 4 + 8, () -> y.lot(by, 0));
            Checks.due("31: who by " + seed, first ? 7 : 6, () -> y.lot(by, 1));
            Checks.due("31: who began first by " + seed, 5, () -> z.lot(by, 1));
        }
    }

    private static int at(int[] order, int guest) {
        for (int i = 0; i < order.length; i++) {
            if (order[i] == guest) {
                return i;
            }
        }
        return -1;
    }

    // 32: "Of so many SEEDS (1 to 40; seed, seed and 1, ..)"
    private static void luckyRange() {
        Edges.within("32: lucky", 1, 40, three(), (x, many) -> x.lucky(2, 7, many));
        Edges.elements("32: lucky", 3, three(), (x, g) -> x.lucky(g, 7, 40));
        Edges.noElements("32: lucky of none", 3, three(), (x, g) -> x.lucky(g, 7, 0));
        Edges.noElements("32: lucky of too many", 3, three(), (x, g) -> x.lucky(g, 7, 41));
        PoolTowels x = Edges.with("chair 1 0;guest 0 1 2 0;guest 0 1 2 0;");
        int luck = 0;
        for (int many = 1; many <= 40; many++) {
            luck += draw(99 + many) % 2;
            int due = luck;
            int so = many;
            Checks.due("32: GUEST 0, " + many, due, () -> x.lucky(0, 100, so));
            Checks.due("32: GUEST 1, " + many, many - due, () -> x.lucky(1, 100, so));
        }
        Checks.due("32: always", 40, () -> Edges.with("chair 1 1;guest 0 1 2 0;").lucky(0, -5, 40));
        Checks.due("32: never", 0, () -> Edges.with("guest 0 1 2 0;").lucky(0, -5, 40));
    }

    // 32: SEEDS are of 32 bits: behind the greatest comes the least
    private static void luckyWraps() {
        PoolTowels x = Edges.with("chair 1 0;guest 0 1 2 0;guest 0 1 2 0;");
        for (int from : new int[] {Integer.MAX_VALUE, Integer.MAX_VALUE - 1, Integer.MAX_VALUE - 20, Integer.MIN_VALUE, -1, -20}) {
            int luck = 0;
            for (int i = 0; i < 40; i++) {
                luck += draw(from + i) % 2;
            }
            int due = luck;
            Checks.due("32: from " + from, due, () -> x.lucky(0, from, 40));
        }
    }

    /** NET, STILL, LOTS and SUMMERS go by the L that is: laid in 0, seen in 4, F in 6. */
    private static void byTheLThatIs() {
        for (int l = 1; l <= 6; l++) {
            PoolTowels x = Edges.with("chair 1 1;guest 0 6 9 0;guest 0 4 5 0;goes 4;hire 2;off " + l + ";");
            boolean off = l <= 4;
            // GUEST 0 comes in 0, GUEST 1 in 4: by an L to 4 the CHAIR is free for him
            Checks.due("22: NET by an L of " + l, off ? -1 : 0, () -> x.net(1, 4));
            Checks.due("22: NET of GUEST 0 by " + l, off ? -1 : 1, () -> x.net(0, 4));
            // alone: behind HALF 4 less L he keeps it, so he pays once
            PoolTowels alone = Edges.with("chair 1 1;guest 0 6 9 0;goes 4;hire 2;off " + l + ";");
            still(alone, 7, off ? 2 + l : 7, off ? 5 - l : 0);
            PoolTowels y = Edges.with("chair 1 1;guest 0 6 9 0;guest 4 4 5 0;goes 4;off " + l + ";");
            Checks.due("31: got by an L of " + l, off ? 4 : 3, () -> y.lot(1, 0));
            Checks.due("31: who by an L of " + l, off ? 3 : 1, () -> y.lot(1, 1));
            Checks.due("31: IDLE by an L of " + l, off ? 4 : 6, () -> y.lot(1, 2));
            Checks.due("32: GUEST 1 by an L of " + l, off ? 9 : 0, () -> y.lucky(1, 1, 9));
            Checks.due("33: got by an L of " + l, off ? 12 : 9, () -> y.summer(1, 3, 0));
            Checks.due("33: IDLE by an L of " + l, off ? 12 : 18, () -> y.summer(1, 3, 1));
        }
    }

    /** One whose towel was off, and who never lay, had a CHAIR. */
    private static void hadButNeverLay() {
        PoolTowels x = Edges.with("chair 1 1;guest 2 10 12 0;guest 7 7 14 0;goes 7;off 2;");
        Checks.due("31: both", 3, () -> x.lot(1, 1));
        Checks.due("32: by all LOTS", 40, () -> x.lucky(0, 1, 40));
        Checks.due("33: as often as the other", 0, () -> x.summer(1, 5, 2));
    }

    // 33: "A SUMMER of n DAYS (1 to 60): 0 .. 3"
    private static void summerRange() {
        Edges.within("33: summer, n", 1, 60, three(), (x, n) -> x.summer(3, n, 0));
        Edges.within("33: summer, what", 0, 3, three(), (x, what) -> x.summer(3, 60, what));
        PoolTowels x = Edges.with("chair 1 1;guest 2 4 9 0;");
        for (int n : new int[] {1, 2, 59, 60}) {
            Checks.due("33: got in " + n, 5 * n, () -> x.summer(3, n, 0));
            Checks.due("33: IDLE in " + n, 2 * n, () -> x.summer(3, n, 1));
        }
        x.day(7);
        Checks.due("33: from DAY 0 on", 5, () -> x.summer(3, 1, 0));
        Checks.due("33: the DAY stays", 7, () -> x.told(5));
    }

    // 33: "2 the GUEST who had a CHAIR most often (the first; NONE: no GUESTS)"
    private static void summerMostOften() {
        Checks.due("33: no GUESTS", -1, () -> Edges.with("chair 1 1;").summer(1, 60, 2));
        Checks.due("33: no CHAIRS", 0, () -> Edges.with("guest 0 1 2 0;".repeat(8)).summer(1, 60, 2));
        Checks.due("33: all alike", 0, () -> Edges.with("chair 1 1;".repeat(8) + "guest 0 1 2 0;".repeat(8)).summer(1, 60, 2));
        Checks.due("33: the last of eight alone", 7,
            () -> Edges.with("chair 1 1;" + "guest 9 1 9 0;".repeat(7) + "guest 8 1 9 0;").summer(1, 9, 2));
        Checks.due("33: the last alone", 2, () -> Edges.with("chair 1 1;guest 9 1 9 0;guest 9 1 9 0;guest 9 1 12 0;").summer(1, 9, 2));
        Checks.due("33: the first of two", 1, () -> Edges.with("chair 1 1;chair 1 1;guest 9 1 9 0;guest 9 1 12 0;guest 9 1 12 0;").summer(1, 9, 2));
        // one who is there on two DAYS of three
        PoolTowels x = Edges.with("chair 1 1;chair 1 1;guest 9 1 9 0;guest 5 1 9 0;");
        Feeding.habit(x, 0, "5");
        Feeding.habit(x, 1, "9");
        Checks.due("33: DAY 0", 1, () -> x.summer(1, 1, 2));
        Checks.due("33: one each", 0, () -> x.summer(1, 2, 2));
        Checks.due("33: two of three", 0, () -> x.summer(1, 3, 2));
    }

    // Terms: "by one LOT for each (the SEED goes on)"
    private static void summerSeedGoesOn() {
        PoolTowels x = Edges.with("chair 1 0;guest 0 0 2 0;guest 0 0 3 0;");
        int seed = 11;
        int got = 0;
        int[] often = new int[2];
        for (int n = 1; n <= 60; n++) {
            boolean first = draw(seed) % 2 == 1;
            seed = next(seed);
            // GUEST 0 first: he lies two HALVES, GUEST 1 the third; GUEST 1 first: three
            got += 3;
            often[0] += first ? 1 : 0;
            often[1] += 1;
            int due = got;
            int most = often[0] >= often[1] ? 0 : 1;
            int days = n;
            Checks.due("33: got in " + n, due, () -> x.summer(11, days, 0));
            Checks.due("33: most often in " + n, most, () -> x.summer(11, days, 2));
        }
        // three GUESTS: two DRAWS a DAY, and each DAY begins by numbers
        PoolTowels y = Edges.with("chair 1 0;guest 0 0 1 0;guest 0 1 2 0;guest 0 3 5 0;");
        int by = 12;
        int idle = 0;
        for (int n = 1; n <= 20; n++) {
            int[] order = order(by, 3);
            by = next(next(by));
            // who is first lies as he wants to, the others as the CHAIR is free again
            idle += order[0] == 0 ? idleBehind0(order) : order[0] == 1 ? 1 + 1 : 3;
            int due = idle;
            int days = n;
            Checks.due("33: IDLE in " + n, due, () -> y.summer(12, days, 1));
        }
    }

    /** GUEST 0 leaves in 1; the next in the order has the CHAIR then: GUEST 1 lies at once, and 2 waits two HALVES for his F. */
    private static int idleBehind0(int[] order) {
        return order[1] == 1 ? 1 : 2;
    }

    // Terms: "HABITS by what was so"
    private static void summerHabits() {
        // who had none comes in 0 on the next DAY and has it, and wakes at 5 again behind that
        PoolTowels x = Edges.with("chair 1 0;guest 5 0 6 0;guest 5 0 6 0;");
        Feeding.habit(x, 0, "if got = 0 then 0 else wake");
        Feeding.habit(x, 1, "if got = 0 then 0 else wake");
        for (int seed = 0; seed < 8; seed++) {
            int s = seed;
            int by = seed;
            int last = -1;
            int[] often = new int[2];
            for (int n = 1; n <= 12; n++) {
                // on DAY 0 the one who is drawn has it; then the other one, who comes in 0, and so on
                last = n == 1 ? draw(s) % 2 == 1 ? 0 : 1 : 1 - last;
                often[last]++;
                int days = n;
                int most = often[1] > often[0] ? 1 : 0;
                Checks.due("33: got by " + seed + " in " + n, 1 + 6 * (n - 1), () -> x.summer(by, days, 0));
                Checks.due("33: most often by " + seed + " in " + n, most, () -> x.summer(by, days, 2));
                Checks.due("33: sleep lost by " + seed + " in " + n, n == 1 ? 0 : 5, () -> x.summer(by, days, 3));
            }
        }
    }

    // 33: "3 the last DAY's HALVES of sleep lost"
    private static void summerLastDay() {
        PoolTowels x = Edges.with("guest 20 1 2 0;guest 20 1 2 0;");
        Feeding.habit(x, 0, "mine - 1");
        Feeding.habit(x, 1, "23");
        for (int n = 1; n <= 30; n++) {
            int days = n;
            Checks.due("33: sleep lost on the last of " + n, Math.min(n - 1, 20), () -> x.summer(5, days, 3));
        }
    }

    // 34: FITS without a BOOK, without lines about him; no such GUEST
    private static void fitsWithout() {
        Edges.elements("34: fits", 3, three(), PoolTowels::fits);
        Checks.due("34: without a BOOK", 7, () -> Edges.with(THREE).fits(0));
        PoolTowels x = Edges.with(THREE);
        Feeding.book(x, "0 1 0;");
        Checks.due("34: no line about him", 7, () -> x.fits(0));
        Checks.due("34: DAY 0 is by no HABIT", 0, () -> x.fits(1));
        Feeding.book(x, "0 1 7;");
        Checks.due("34: so all or none fit it", 7, () -> x.fits(1));
        PoolTowels eight = Edges.with("guest 0 1 2 0;".repeat(8));
        Checks.due("34: all eight", 255, () -> eight.fits(7));
        Feeding.habit(eight, 7, "1");
        Feeding.book(eight, "60 7 1;");
        Checks.due("34: his own alone", 128, () -> eight.fits(7));
        Feeding.book(eight, "60 7 0;");
        Checks.due("34: all but his own", 127, () -> eight.fits(7));
    }

    // Terms: "all lines of the BOOK about him would be so"
    private static void fitsAll() {
        PoolTowels x = Edges.with("guest 9 1 2 0;guest 9 1 2 0;guest 9 1 2 0;");
        Feeding.habit(x, 1, "mine - 1");
        Feeding.habit(x, 2, "if day > 3 then 0 else mine - 1");
        Feeding.book(x, "0 0 9;");
        Checks.due("34: on DAY 0", 7, () -> x.fits(0));
        Feeding.book(x, "0 0 9;1 0 8;");
        Checks.due("34: to DAY 1", 6, () -> x.fits(0));
        Feeding.book(x, "0 0 9;1 0 8;4 0 5;");
        Checks.due("34: to DAY 4", 2, () -> x.fits(0));
        Feeding.book(x, "4 0 0;0 0 9;");
        Checks.due("34: in any order", 4, () -> x.fits(0));
        Feeding.book(x, "1 0 8;1 0 9;");
        Checks.due("34: lines that do not agree", 0, () -> x.fits(0));
        Feeding.book(x, "1 0 8;1 0 8;1 1 0;1 2 0;");
        Checks.due("34: others' lines are no matter", 6, () -> x.fits(0));
        Feeding.book(x, "60 0 0;");
        Checks.due("34: on DAY 60", 6, () -> x.fits(0));
        // wish and wake are his own by another's HABIT too
        PoolTowels y = Edges.with("guest 5 6 9 0;guest 10 12 15 0;");
        Feeding.habit(y, 1, "wish - wake");
        Feeding.book(y, "1 0 1;");
        Checks.due("34: by his own F and U", 2, () -> y.fits(0));
        Feeding.book(y, "1 1 10;");
        Checks.due("34: by his own U", 1, () -> y.fits(1));
    }

    // Terms: "(others with theirs)"
    private static void fitsOthers() {
        PoolTowels x = Edges.with("guest 9 1 2 0;guest 9 1 2 0;guest 9 1 2 0;");
        Feeding.habit(x, 1, "first - 1");
        Feeding.habit(x, 2, "first");
        // by his own 9, 9, 9; by 1's 8, 7, 6; by 2's he comes with the first of the DAY ahead: 9, 8, 7
        Feeding.book(x, "1 0 9;2 0 8;3 0 7;");
        Checks.due("34: behind GUEST 1", 4, () -> x.fits(0));
        Feeding.book(x, "1 0 8;2 0 7;3 0 6;");
        Checks.due("34: with GUEST 1", 2, () -> x.fits(0));
        Feeding.book(x, "1 1 9;2 1 9;3 1 9;");
        Checks.due("34: then nobody goes on earlier", 5, () -> x.fits(1));
        Checks.due("34: HABITS stay", 0, x::right);
        // what was supposed of one is not so for the next
        Feeding.book(x, "1 1 8;2 1 7;");
        Checks.due("34: asked of GUEST 0", 7, () -> x.fits(0));
        Checks.due("34: then of GUEST 1", 2, () -> x.fits(1));
        PoolTowels y = Edges.with("guest 2 1 2 0;guest 20 1 2 0;guest 20 1 2 0;");
        Feeding.habit(y, 1, "first + 9");
        Feeding.habit(y, 2, "20");
        Feeding.book(y, "2 1 11;");
        Checks.due("34: no line about GUEST 0", 7, () -> y.fits(0));
        Checks.due("34: GUEST 1 comes nine behind GUEST 0", 2, () -> y.fits(1));
        Checks.due("34: the DAYS stay", 8, () -> {
            x.day(1);
            return x.did(1, 0);
        });
    }

    // 35: "How many lines of the BOOK are so, from the first on."
    private static void rightFromTheFirst() {
        PoolTowels x = Edges.with("guest 9 1 2 0;guest 8 1 2 0;");
        Checks.due("35: without a BOOK", 0, x::right);
        String so = "0 0 9;";
        String not = "0 0 8;";
        for (int many = 0; many <= 12; many++) {
            Feeding.book(x, so.repeat(many));
            Checks.due("35: all of " + many, many, x::right);
        }
        for (int many = 0; many <= 11; many++) {
            Feeding.book(x, so.repeat(many) + not + so.repeat(11 - many));
            Checks.due("35: till the one that is not so", many, x::right);
        }
    }

    // 35: lines of DAYS 0 and 60, whatever DAY is
    private static void rightByDays() {
        PoolTowels x = Edges.with("guest 9 1 2 0;guest 8 1 2 0;");
        Feeding.habit(x, 0, "day / 3");
        Feeding.book(x, "60 0 20;0 0 9;59 0 19;60 1 8;1 0 0;");
        Checks.due("35: all", 5, x::right);
        x.day(100);
        Checks.due("35: on another DAY", 5, x::right);
        x.wakes(0, 10);
        Checks.due("35: woken", 1, x::right);
        x.undo();
        Checks.due("35: undone", 5, x::right);
        Feeding.habit(x, 0, "9");
        Checks.due("35: by another HABIT", 0, x::right);
    }

    // 36: "GUESTS who come in a HALF or ahead of it, as bits."
    private static void early() {
        Edges.within("36: early", 0, 23, three(), PoolTowels::early);
        PoolTowels x = Edges.with("guest 0 1 2 0;guest 22 1 2 0;guest 23 1 2 0;guest 11 1 2 0;");
        int[][] due = {{0, 1}, {1, 1}, {10, 1}, {11, 9}, {21, 9}, {22, 11}, {23, 15}};
        for (int[] pair : due) {
            Checks.due("36: early(" + pair[0] + ")", pair[1], () -> x.early(pair[0]));
        }
        Checks.due("36: all eight", 255, () -> Edges.with("guest 23 1 2 0;".repeat(8)).early(23));
        Checks.due("36: none of eight", 0, () -> Edges.with("guest 23 1 2 0;".repeat(8)).early(22));
        Checks.due("36: nobody", 0, () -> new PoolTowels().early(23));
        Feeding.habit(x, 2, "0");
        x.day(1);
        Checks.due("36: on DAY 1", 5, () -> x.early(0));
    }
}
