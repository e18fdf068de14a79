import java.util.function.Supplier;

/** The boundary cases of promises 1 to 6, and of the Terms' texts: a method for each sentence, which stands above it. */
public final class TextEdgesTest {
    private static final String TWO = "chair 5 5;guest 10 12 20 1;guest 11 12 20 1;";

    private TextEdgesTest() {
    }

    public static void main(String[] args) {
        aNewObject();
        aNewObjectHasNobody();
        theHighestByteFirst();
        theTapeIsFull();
        theFirstBytes();
        nIsWithinTheTape();
        nothingIsLeftOfAnotherPool();
        allButTheTapeStays();
        poolBytes();
        sixtyClauses();
        eightChairs();
        eightGuests();
        chairNumbers();
        guestNumbers();
        hotelNumbers();
        theLastCounts();
        without();
        digitsAsManyAsStandThere();
        lettersAsManyAsStandThere();
        blanksAlone();
        endsTooEarly();
        theFirstFromTheLeft();
        ofOneTheLeast();
        habitN();
        habitGuests();
        habitKeeps();
        habitWithout();
        habitBytes();
        nothingMore();
        habitNumbers();
        sevenOpen();
        ifTillItsLastEnds();
        deepest();
        wraps();
        cutsAndLeaves();
        byNothing();
        signsAndCounts();
        comesWithinTheDay();
        bookN();
        bookLines();
        bookNumbers();
        bookKeeps();
        bookWithoutGuests();
        faultOfTheLatest();
        faultIsNotOfRefused();
        Checks.end();
    }

    private static void pool(String text, int answer, int place) {
        PoolTowels x = new PoolTowels();
        Checks.due("pool \"" + text + '"', answer, () -> Feeding.pool(x, text));
        Checks.due("fault of pool \"" + text + '"', place, x::fault);
        Checks.due("the TAPE behind pool \"" + text + '"', 0, () -> x.count(1));
    }

    private static void habit(String text, int answer, int place) {
        PoolTowels x = Edges.with(TWO);
        Checks.due("habit \"" + text + '"', answer, () -> Feeding.habit(x, 1, text));
        Checks.due("fault of habit \"" + text + '"', place, x::fault);
        Checks.due("the TAPE behind habit \"" + text + '"', 0, () -> x.count(1));
    }

    private static void book(String text, int answer, int place) {
        PoolTowels x = Edges.with(TWO);
        Checks.due("book \"" + text + '"', answer, () -> Feeding.book(x, text));
        Checks.due("fault of book \"" + text + '"', place, x::fault);
        Checks.due("the TAPE behind book \"" + text + '"', 0, () -> x.count(1));
    }

    private static void value(String text, int due) {
        PoolTowels x = Edges.with(TWO);
        Checks.due("habit \"" + text + '"', 1, () -> Feeding.habit(x, 1, text));
        Checks.due("value of \"" + text + '"', due, () -> x.would(1, 9, 4, 17, 1, 6, 30));
    }

    // 1: "A POOL without CLAUSES."
    private static void aNewObject() {
        PoolTowels x = new PoolTowels();
        int[] told = {0, 0, 0, 2, 0, 0, 0};
        for (int what = 0; what < told.length; what++) {
            int w = what;
            Checks.due("1: told " + w, told[w], () -> x.told(w));
        }
        for (int what = 0; what <= 5; what++) {
            int w = what;
            Checks.due("1: sums " + w, 0, () -> x.sums(w));
        }
        for (int what = 0; what <= 2; what++) {
            int w = what;
            Checks.due("1: lot " + w, 0, () -> x.lot(1, w));
            Checks.due("1: status " + w, 0, () -> x.status(w));
            Checks.due("1: count " + w, 0, () -> x.count(w));
        }
        Checks.due("1: fault", -1, x::fault);
        Checks.due("1: waits", 0, () -> x.waits(0));
        Checks.due("1: early", 0, () -> x.early(23));
        Checks.due("1: round from", 0, () -> x.round(0));
        Checks.due("1: round days", 1, () -> x.round(1));
        Checks.due("1: still", 1, () -> x.still(8, 0));
        Checks.due("1: still first", 0, () -> x.still(8, 1));
        Checks.due("1: given", 0, x::given);
        Checks.due("1: waste", 0, x::waste);
        Checks.due("1: more", 0, () -> x.more(9, 9));
        Checks.due("1: want", 0, () -> x.want(0));
        Checks.due("1: just, the least", 0, () -> x.just(0));
        Checks.due("1: just, the greatest", 999, () -> x.just(1));
        Checks.due("1: off", 1, () -> x.off(0));
        Checks.due("1: got by it", 0, () -> x.off(1));
        Checks.due("1: turnsOf", 0, () -> x.turnsOf(99));
        Checks.due("1: summer", 0, () -> x.summer(1, 60, 0));
        Checks.due("1: summer's GUEST", -1, () -> x.summer(1, 60, 2));
        Checks.due("1: summer's sleep", 0, () -> x.summer(1, 60, 3));
        Checks.due("1: right", 0, x::right);
        Checks.due("1: undo", -1, x::undo);
        Checks.due("1: restore", -1, x::restore);
        Checks.due("1: image", 1, x::image);
        Checks.due("1: hotel", 1, () -> x.hotel(1, 1));
    }

    // 1, 4: "no such GUEST (.. so below, CHAIRS too ..)", without any
    private static void aNewObjectHasNobody() {
        Supplier<PoolTowels> made = PoolTowels::new;
        Edges.elements("1: habit", 0, made, (x, g) -> x.habit(g, 0));
        Edges.elements("1: chair", 0, made, (x, c) -> x.chair(c, 0));
        Edges.elements("1: guest", 0, made, (x, g) -> x.guest(g, 0));
        Edges.elements("1: did", 0, made, (x, g) -> x.did(g, 0));
        Edges.elements("1: towel", 0, made, (x, c) -> x.towel(c, 0));
        Edges.elements("1: lies", 0, made, (x, c) -> x.lies(c, 0));
        Edges.elements("1: worth", 0, made, (x, n) -> x.worth(n, n, 0));
        Edges.elements("1: would", 0, made, (x, g) -> x.would(g, 0, 0, 0, 0, 0, 0));
        Edges.elements("1: out", 0, made, PoolTowels::out);
        Edges.elements("1: had", 0, made, (x, g) -> x.had(g, 1));
        Edges.elements("1: net", 0, made, (x, g) -> x.net(g, 0));
        Edges.elements("1: gets", 0, made, PoolTowels::gets);
        Edges.elements("1: lucky", 0, made, (x, g) -> x.lucky(g, 0, 1));
        Edges.elements("1: fits", 0, made, PoolTowels::fits);
        Edges.elements("1: wakes", 0, made, (x, g) -> x.wakes(g, 0));
    }

    // 2: "Twenty bytes come on the TAPE, of each number the highest first: how many there are"
    private static void theHighestByteFirst() {
        for (int at = 0; at < 20; at++) {
            for (int odd : new int[] {0, 31, 33, 127, 128, 160, 255}) {
                byte[] text = " ".repeat(20).getBytes();
                text[at] = (byte) odd;
                PoolTowels x = new PoolTowels();
                int[] five = Feeding.piece(text, 0);
                Checks.due("2: feed", 20, () -> x.feed(five[0], five[1], five[2], five[3], five[4]));
                Checks.due("2: a byte " + odd + " at " + at, -9, () -> x.pool(20));
                Checks.due("2: is found at " + at, at, x::fault);
            }
        }
        PoolTowels x = new PoolTowels();
        x.feed(0x20202020, 0x20202020, 0x20202020, 0x20202020, 0x20202067);
        Checks.due("2: behind those that are there", 40, () -> x.feed(0x6f657320, 0x373b2020, -1, -1, -1));
        Checks.due("2: they are one text", 0, () -> x.pool(28));
        Checks.due("2: goes 7", 7, () -> x.told(2));
    }

    // 2: "NONE, doing nothing, if there would be more than 600."
    private static void theTapeIsFull() {
        PoolTowels x = new PoolTowels();
        int blanks = 0x20202020;
        for (int i = 1; i <= 30; i++) {
            Checks.due("2: feed " + i, 20 * i, () -> x.feed(blanks, blanks, blanks, blanks, blanks));
        }
        for (int i = 0; i < 3; i++) {
            Checks.due("2: beyond 600", -1, () -> x.feed(-1, -1, -1, -1, -1));
            Checks.due("2: 600 are there", 600, () -> x.count(1));
        }
        Checks.due("2: it is no refusal", 0, () -> x.status(0) + x.status(1) + x.status(2));
        Checks.due("2: all 600 are as they were", 0, () -> x.pool(600));
        Checks.due("2: no FAULT in them", -1, x::fault);
        Checks.due("2: empty, it takes more", 20, () -> x.feed(-1, -1, -1, -1, -1));
    }

    // 3: "The first n bytes of the TAPE (empty then) are the POOL"
    private static void theFirstBytes() {
        PoolTowels x = Edges.with(TWO + "goes 4;");
        Feeding.feed(x, "hire 5;x".getBytes());
        Checks.due("3: the first 0", 0, () -> x.pool(0));
        Checks.due("3: the TAPE is empty", 0, () -> x.count(1));
        Checks.due("3: G is none", 0, () -> x.told(2));
        Checks.due("3: no CHAIRS", 0, () -> x.told(0));
        Checks.due("3: nobody", 0, () -> x.told(1));
        Checks.due("3: 0 of an empty TAPE", 0, () -> x.pool(0));
        Feeding.feed(x, "hire 5;x".getBytes());
        Checks.due("3: the first 7", 0, () -> x.pool(7));
        Checks.due("3: they are told", 5, () -> x.told(4));
        Feeding.feed(x, "hire 5;x".getBytes());
        Checks.due("3: the first 8", -9, () -> x.pool(8));
        Checks.due("3: the 8th is wrong", 7, x::fault);
        Checks.due("3: the TAPE is empty behind a FAULT too", 0, () -> x.count(1));
        Feeding.feed(x, "hire 6;".getBytes());
        Checks.due("3: nothing of it is left on the TAPE", 20, () -> x.count(1));
        Checks.due("3: it begins anew", 0, () -> x.pool(7));
        Checks.due("3: it is told", 6, () -> x.told(4));
    }

    // 3: "IllegalArgumentException: n is not 0 to the TAPE's bytes (it stays)."
    private static void nIsWithinTheTape() {
        Supplier<PoolTowels> made = () -> {
            PoolTowels x = Edges.with(TWO);
            Feeding.feed(x, "chair 1 1;hire 3;   ".getBytes());
            return x;
        };
        Edges.within("3: pool of twenty", 0, 20, made, PoolTowels::pool);
        Edges.within("3: pool of none", 0, 0, () -> Edges.with(TWO), PoolTowels::pool);
        PoolTowels x = made.get();
        Edges.badArgument("3: pool(21)", x, () -> x.pool(21));
        Checks.due("3: the bytes stay", 20, () -> x.count(1));
        Checks.due("3: as they were", 0, () -> x.pool(20));
        Checks.due("3: and are told", 3, () -> x.told(4));
    }

    private static PoolTowels full() {
        PoolTowels x = Edges.with(TWO + "goes 3;off 4;hire 5;");
        Feeding.habit(x, 0, "mine - 1");
        Feeding.book(x, "0 0 10;3 0 7;");
        x.day(3);
        x.hotel(6, 7);
        x.hire(8);
        x.wakes(1, 9);
        x.image();
        return x;
    }

    // 3: "(DAY 0; no HABITS, BOOK, IMAGES, nothing to undo)"
    private static void nothingIsLeftOfAnotherPool() {
        PoolTowels x = full();
        Checks.due("3: the same again", 2, () -> Feeding.pool(x, TWO));
        Checks.due("3: DAY 0", 0, () -> x.told(5));
        Checks.due("3: no BOOK", 0, () -> x.told(6));
        Checks.due("3: no IMAGES", 0, () -> x.count(0));
        Checks.due("3: nothing to undo", 0, () -> x.count(2));
        Checks.due("3: undo", -1, x::undo);
        Checks.due("3: restore", -1, x::restore);
        Checks.due("3: G", 0, () -> x.told(2));
        Checks.due("3: L", 2, () -> x.told(3));
        Checks.due("3: P", 0, () -> x.told(4));
        Checks.due("3: U as told", 11, () -> x.guest(1, 0));
        Checks.due("3: no HABITS", 10, () -> x.would(0, 5, 5, 5, 0, 0, 1));
        Checks.due("3: DAYS by none", 5, () -> x.had(0, 5));
        Checks.due("3: at rest", 0, () -> x.round(0));
        Checks.due("3: right", 0, x::right);
        Checks.due("3: still of this one", 1, () -> {
            PoolTowels y = Edges.with("chair 1 1;guest 0 5 9 0;");
            int was = y.still(8, 0);
            Feeding.pool(y, "chair 1 1;guest 7 5 9 2;");
            return was == 6 && y.still(8, 0) == 1 && y.still(8, 1) == 7 ? 1 : 0;
        });
        Checks.due("3: given of this one", 1, () -> {
            PoolTowels y = Edges.with("chair 1 1;guest 0 5 9 0;");
            int was = y.given();
            Feeding.pool(y, "chair 2 2;guest 0 5 9 0;");
            return was == 4 && y.given() == 8 && y.want(8) == 1 ? 1 : 0;
        });
        for (int many = 8; many >= 0; many--) {
            int left = many;
            Checks.due("3: given of fewer, " + many, 4 * many, () -> {
                Feeding.pool(x, "chair 1 1;".repeat(8) + "guest 0 5 9 0;".repeat(left));
                return x.given();
            });
        }
        nothingIsLeftOfEight();
        Feeding.pool(x, TWO);
        Checks.due("3: as many changes as ever", 20, () -> {
            int many = 0;
            for (int i = 0; i < 25; i++) {
                many += x.hire(i);
            }
            return many;
        });
        Checks.due("3: as many IMAGES as ever", 3, () -> {
            x.image();
            x.image();
            return x.image();
        });
    }

    private static void nothingIsLeftOfEight() {
        String eight = "guest 9 10 12 0;".repeat(8);
        PoolTowels x = Edges.with(eight);
        for (int g = 0; g < 8; g++) {
            int guest = g;
            Feeding.habit(x, g, Integer.toString(g));
            Checks.due("4: the HABIT of " + g, g, () -> x.would(guest, 0, 0, 0, 0, 0, 0));
        }
        x.day(1);
        for (int g = 0; g < 8; g++) {
            int guest = g;
            Checks.due("4: by his HABIT " + g + " comes", g, () -> x.did(guest, 0));
        }
        Checks.due("3: some wait", 255, () -> x.waits(11));
        Feeding.pool(x, eight.replace("9 10 12", "9 10 11"));
        for (int g = 0; g < 8; g++) {
            int guest = g;
            Checks.due("3: no HABIT of " + g, 9, () -> x.would(guest, 0, 0, 0, 0, 0, 0));
        }
        Checks.due("3: they wait no more", 0, () -> x.waits(11));
        Checks.due("3: nor ahead of coming", 0, () -> x.waits(8));
    }

    // 3: "or the FAULT less 10 (all but the TAPE stays)"
    private static void allButTheTapeStays() {
        String[] wrong = {"chair 1 1;guest 0 1 2 0;goes 1;off 1;hire 1;x", "chair 1 1;guest 0 1 2 0;hire 100;",
            "guest 0 1 2 0;".repeat(9), "chair", "x"};
        int[] answers = {-9, -8, -7, -9, -9};
        for (int i = 0; i < wrong.length; i++) {
            String text = wrong[i];
            int due = answers[i];
            PoolTowels x = full();
            String was = Edges.all(x);
            int place = x.fault();
            Checks.due("3: a FAULT", due, () -> Feeding.pool(x, text));
            Checks.due("3: the BOOK stays", 2, () -> x.told(6));
            Checks.due("3: its lines too", 2, x::right);
            Checks.same("3: the place is another", "true", Boolean.toString(x.fault() != place));
            // a text without a FAULT that leaves all as it is takes the place away again
            Feeding.habit(x, 0, "mine - 1");
            Checks.same("3: all stays", was, Edges.all(x));
            Checks.due("3: no refusal", 0, () -> x.status(0) + x.status(1) + x.status(2));
            Checks.due("3: HABITS stay", 7, () -> x.did(0, 0));
            Checks.due("3: undo", 2, x::undo);
            Checks.due("3: restore", 0, x::restore);
            Checks.due("3: the IMAGE's changes", 3, () -> x.count(2));
        }
    }

    // Terms: "A POOL is a text of up to 600 bytes"
    private static void poolBytes() {
        pool(" ".repeat(600), 0, -1);
        pool(" ".repeat(592) + "hire 42;", 0, -1);
        pool(" ".repeat(593) + "hire 4;", 0, -1);
        pool(" ".repeat(594) + "hire 4", -9, 600);
        pool(" ".repeat(599) + "x", -9, 599);
        PoolTowels x = new PoolTowels();
        Feeding.pool(x, "hire " + "0".repeat(592) + "42;");
        Checks.due("600 bytes, a number of 594", 42, () -> x.told(4));
    }

    // Terms: "{ CLAUSE \";\" }, at most 60", "3 a CLAUSE .. too many (at its word)"
    private static void sixtyClauses() {
        pool("", 0, -1);
        String most = "chair 1 1;".repeat(8) + "guest 0 5 9 1;".repeat(8) + "goes 1;".repeat(14) + "off 2;".repeat(15)
            + "hire 3;".repeat(15);
        int length = most.length();
        pool(most, 8, -1);
        pool(most + "  ", 8, -1);
        pool(most + "goes 1;", -7, length);
        pool(most + " off 2;", -7, length + 1);
        pool(most + "  hire 3;", -7, length + 2);
        pool(most + "hire", -7, length);
        pool(most + "chair 1 1;", -7, length);
        pool(most + "guest 0 5 9 1;", -7, length);
        pool("hire 1;".repeat(60), 0, -1);
        pool("hire 1;".repeat(60) + "chair 1 1;", -7, 420);
        pool("hire 1;".repeat(60) + "guest 0 5 9 1;", -7, 420);
        pool("hire 1;".repeat(59) + "hire 1", -9, 419);
        pool("hire 1;".repeat(59) + "guest 0 5 9 1;", 1, -1);
    }

    // Terms: "CHAIRS, numbered from 0 on, 8 at most", "3 a .. CHAIR (at its word) .. too many"
    private static void eightChairs() {
        StringBuilder eight = new StringBuilder();
        for (int c = 0; c < 8; c++) {
            eight.append("chair ").append(c + 1).append(' ').append(9 - c).append(';');
        }
        pool(eight.toString(), 0, -1);
        pool(eight + "chair 1 1;", -7, 80);
        pool(eight + "   chair 1 1;", -7, 83);
        pool(eight + "chair", -7, 80);
        pool(eight + "chair 10 1;", -7, 80);
        pool(eight + "guest 0 1 2 0;", 1, -1);
        pool("off 3;" + eight + "guest 0 1 2 0;goes 1;chair 1 1;", -7, 107);
        Edges.elements("8 CHAIRS", 8, () -> Edges.with(eight.toString()), (x, c) -> x.chair(c, 0));
        for (int c = 0; c < 8; c++) {
            int chair = c;
            Checks.due("A of CHAIR " + c, c + 1, () -> Edges.with(eight.toString()).chair(chair, 0));
            Checks.due("B of CHAIR " + c, 9 - c, () -> Edges.with(eight.toString()).chair(chair, 1));
        }
    }

    // Terms: "(GUESTS likewise, 8", "3 a .. GUEST (at its word) .. too many"
    private static void eightGuests() {
        StringBuilder eight = new StringBuilder();
        for (int g = 0; g < 8; g++) {
            eight.append("guest ").append(g).append(' ').append(g + 1).append(" 9 ").append(9 - g).append(';');
        }
        pool(eight.toString(), 8, -1);
        pool(eight + "guest 0 1 2 0;", -7, 112);
        pool(eight + "   guest 0 1 2 0;", -7, 115);
        pool(eight + "guest", -7, 112);
        pool(eight + "guest 24 1 2 0;", -7, 112);
        pool(eight + "chair 1 1;", 8, -1);
        pool("off 3;" + eight + "chair 1 1;goes 1;guest 0 1 2 0;", -7, 135);
        for (int many = 0; many <= 8; many++) {
            pool("guest 0 1 2 0;".repeat(many), many, -1);
        }
        Edges.elements("8 GUESTS", 8, () -> Edges.with(eight.toString()), (x, g) -> x.guest(g, 0));
        for (int g = 0; g < 8; g++) {
            int guest = g;
            int[] due = {g, g + 1, 9, 9 - g};
            for (int what = 0; what < 4; what++) {
                int w = what;
                Checks.due("GUEST " + g, due[w], () -> Edges.with(eight.toString()).guest(guest, w));
            }
        }
    }

    private static void number(String ahead, String behind, int least, int most) {
        int guests = ahead.startsWith("guest") ? 1 : 0;
        pool(ahead + least + behind, guests, -1);
        pool(ahead + most + behind, guests, -1);
        pool(ahead + (most + 1) + behind, -8, ahead.length());
        pool(ahead + "99" + most + behind, -8, ahead.length());
        pool(ahead + "-1" + behind, -9, ahead.length());
        pool(ahead + "+1" + behind, -9, ahead.length());
        pool(ahead + "x" + behind, -9, ahead.length());
        pool(ahead, -9, ahead.length());
        if (least > 0) {
            pool(ahead + (least - 1) + behind, -8, ahead.length());
        }
    }

    // Terms: "worth A in each of HALVES 0 to 11, B in 12 to 23; 0 to 9 both"
    private static void chairNumbers() {
        number("chair ", " 1;", 0, 9);
        number("chair 1 ", ";", 0, 9);
        PoolTowels x = Edges.with("chair 1 9;guest 0 0 23 0;guest 0 11 13 0;guest 0 0 12 0;guest 0 12 23 0;");
        Checks.due("A in 0 to 11, B in 12 to 22", 12 + 99, () -> x.worth(0, 0, 0));
        Checks.due("from 11", 1 + 99, () -> x.worth(0, 0, 11));
        Checks.due("from 12", 99, () -> x.worth(0, 0, 12));
        Checks.due("11 and 12", 10, () -> x.worth(1, 0, 0));
        Checks.due("A alone", 12, () -> x.worth(2, 0, 0));
        Checks.due("B alone", 99, () -> x.worth(3, 0, 0));
        Checks.due("11 and 12, lain", 10, () -> Edges.with("chair 1 9;guest 11 11 13 0;").did(0, 3));
        Checks.due("11 alone, lain", 1, () -> Edges.with("chair 1 9;guest 11 11 12 0;").did(0, 3));
        Checks.due("12 alone, lain", 9, () -> Edges.with("chair 1 9;guest 12 12 13 0;").did(0, 3));
    }

    // Terms: "HALF U, 0 to 23, .. F 0 to 22, T more than F, 23 at most; .. C, 0 to 9"
    private static void guestNumbers() {
        number("guest ", " 1 2 0;", 0, 23);
        number("guest 0 ", " 23 0;", 0, 22);
        number("guest 0 0 ", " 0;", 1, 23);
        number("guest 0 5 ", " 0;", 6, 23);
        number("guest 0 22 ", " 0;", 23, 23);
        number("guest 0 1 2 ", ";", 0, 9);
        pool("guest 0 7 7 0;", -8, 10);
        pool("guest 0 7 0 0;", -8, 10);
        pool("guest 0 23 24 0;", -8, 8);
    }

    // Terms: "goes" 0 to 23; "off" 1 to 23; "hire" 0 to 99
    private static void hotelNumbers() {
        number("goes ", ";", 0, 23);
        number("off ", ";", 1, 23);
        number("hire ", ";", 0, 99);
        Checks.due("goes 23", 23, () -> Edges.with("goes 23;").told(2));
        Checks.due("off 23", 23, () -> Edges.with("off 23;").told(3));
        Checks.due("off 1", 1, () -> Edges.with("off 1;").told(3));
        Checks.due("hire 99", 99, () -> Edges.with("hire 99;").told(4));
    }

    // Terms: "the last counts" of goes, off and hire
    private static void theLastCounts() {
        PoolTowels x = Edges.with("hire 1;goes 9;off 9;hire 9;off 1;goes 1;");
        Checks.due("the last G", 1, () -> x.told(2));
        Checks.due("the last L", 1, () -> x.told(3));
        Checks.due("the last P", 9, () -> x.told(4));
        PoolTowels y = Edges.with("goes 9;goes 0;hire 9;hire 0;off 9;off 2;");
        Checks.due("the last G is 0", 0, () -> y.told(2));
        Checks.due("the last L is 2", 2, () -> y.told(3));
        Checks.due("the last P is 0", 0, () -> y.told(4));
        pool("goes 24;goes 1;", -8, 5);
        pool("off 0;off 1;", -8, 4);
        pool("hire 100;hire 1;", -8, 5);
    }

    // Terms: "0 without" (goes), "2 without" (off), "0 without" (hire)
    private static void without() {
        PoolTowels x = Edges.with("goes 9;off 9;hire 9;");
        Feeding.pool(x, "chair 1 1;");
        Checks.due("G without", 0, () -> x.told(2));
        Checks.due("L without", 2, () -> x.told(3));
        Checks.due("P without", 0, () -> x.told(4));
        PoolTowels one = Edges.with("goes 5;");
        Checks.due("L without, G told", 2, () -> one.told(3));
        Checks.due("P without, G told", 0, () -> one.told(4));
        PoolTowels two = Edges.with("off 5;");
        Checks.due("G without, L told", 0, () -> two.told(2));
        PoolTowels three = Edges.with("hire 5;");
        Checks.due("G without, P told", 0, () -> three.told(2));
        Checks.due("L without, P told", 2, () -> three.told(3));
    }

    // Terms: "Numbers: digits, as many as stand there"; those that would wrap are none such
    private static void digitsAsManyAsStandThere() {
        String[] same = {"5", "05", "005", "0000000000000000000000005", "0".repeat(120) + "5"};
        for (String five : same) {
            Checks.due("hire " + five, 5, () -> Edges.with("hire " + five + ";").told(4));
            value(five, 5);
            book(five + " 1 5;", 1, -1);
        }
        String[] wrapped = {"4294967301", "4294967296", "2147483648", "2147483653", "18446744073709551616",
            "18446744073709551621", "9223372036854775808", "1" + "0".repeat(60), "10000000005", "65541", "261",
            "340282366920938463463374607431768211461"};
        for (String big : wrapped) {
            pool("hire " + big + ";", -8, 5);
            habit("1+" + big, -8, 2);
            book(big + " 0 0;", -8, 0);
            book("0 " + big + " 0;", -8, 2);
            book("0 0 " + big + ";", -8, 4);
        }
        pool("chair 12;", -8, 6);
        pool("chair 1 2", -9, 9);
        pool("guest 0123;", -8, 6);
        pool("guest 0 1 2 00;", 1, -1);
        pool("hire1;goes1;off1;chair1 1;guest1 1 2 1;", 1, -1);
    }

    // Terms: "WORDS: small letters, as many as stand there"
    private static void lettersAsManyAsStandThere() {
        for (String word : new String[] {"chair", "guest", "goes", "off", "hire"}) {
            String numbers = word.equals("chair") ? " 1 1;" : word.equals("guest") ? " 0 1 2 0;" : " 1;";
            pool(word + numbers, word.equals("guest") ? 1 : 0, -1);
            pool(word + "s" + numbers, -9, 0);
            pool(word + "z" + numbers, -9, 0);
            pool(word + "a" + numbers, -9, 0);
            pool(word + word + numbers, -9, 0);
            pool("a" + word + numbers, -9, 0);
            pool(word.substring(1) + numbers, -9, 0);
            pool(word.substring(0, word.length() - 1) + numbers, -9, 0);
            pool(word.substring(0, 1).toUpperCase() + word.substring(1) + numbers, -9, 0);
            pool(word.substring(0, 2) + " " + word.substring(2) + numbers, -9, 0);
            pool(word + "S" + numbers, -9, word.length());
            pool(word + "`" + numbers, -9, word.length());
            pool(word + "{" + numbers, -9, word.length());
        }
        for (String name : new String[] {"mine", "first", "last", "got", "lain", "off", "day", "wish", "wake", "chairs",
            "guests"}) {
            habit(name, 1, -1);
            habit(name + "s", -9, 0);
            habit(name + "mine", -9, 0);
            habit(name.substring(0, name.length() - 1), -9, 0);
            habit(name.toUpperCase(), -9, 0);
            habit(name + "(1)", -9, name.length());
            habit(name + "2", -9, name.length());
        }
        habit("chair", -9, 0);
        habit("guest", -9, 0);
        habit("leastest[1,2]", -9, 0);
        habit("mos[1,2]", -9, 0);
        habit("iff 1=1 then 1 else 1", -9, 0);
        habit("ifmine=1 then 1 else 1", -9, 0);
        habit("if 1=minethen 1 else 1", -9, 5);
        habit("if 1=1 then mineelse 1", -9, 12);
        habit("if 1=1then1else1", 1, -1);
        habit("then", -9, 0);
        habit("else", -9, 0);
    }

    // Terms: "blanks (32) may stand ahead of all these, and at the end"
    private static void blanksAlone() {
        pool("   chair   1   1   ;   guest   0   1   2   0   ;   ", 1, -1);
        habit("   if   (   1   )   <   least   [   1   ,   2   ]   then   3   +   4   else   5   *   6   ", 1, -1);
        book("   0   0   1   ;   0   1   2   ;   ", 2, -1);
        pool("chair1 1;guest0 1 2 0;hire1;", 1, -1);
        habit("if(1)<least[1,2]then 3+4else 5*6", 1, -1);
        for (int other : new int[] {0, 9, 10, 13, 31, 33, 95, 160, 255}) {
            String sign = Character.toString((char) other);
            pool(sign, -9, 0);
            pool("chair" + sign + "1 1;", -9, 5);
            pool("chair 1" + sign + "1;", -9, 7);
            pool("chair 1 1" + sign + ";", -9, 9);
            pool("chair 1 1;" + sign, -9, 10);
            habit(sign + "1", -9, 0);
            habit("1" + sign, -9, 1);
            book(sign, -9, 0);
            book("0" + sign + "0 1;", -9, 1);
            book("0 0 1" + sign + ";", -9, 5);
        }
    }

    // Terms: FAULT 1 "(at the length, if the text ends too early)"
    private static void endsTooEarly() {
        String clause = "guest 1 2 3 4;";
        for (int n = 1; n < clause.length(); n++) {
            String part = clause.substring(0, n);
            // a word cut short is what can't stand there
            pool(part, -9, n < 5 ? 0 : n);
            pool(part + "  ", -9, n < 5 ? 0 : n + 2);
        }
        String line = "60 1 23;";
        for (int n = 1; n < line.length(); n++) {
            book(line.substring(0, n), -9, n);
            book(line.substring(0, n) + "  ", -9, n + 2);
        }
        habit("", -9, 0);
        habit("  ", -9, 2);
        for (String part : new String[] {"1+", "1-", "1*", "1/", "1%", "(", "(1", "(1+", "least", "least[", "least[1", "least[1,",
            "least[1,2", "most", "if", "if 1", "if 1<", "if 1<2", "if 1<2 then", "if 1<2 then 3", "if 1<2 then 3 else"}) {
            habit(part, -9, part.length());
            habit(part + "   ", -9, part.length() + 3);
        }
        PoolTowels x = Edges.with(TWO);
        Feeding.feed(x, "hire 12;".getBytes());
        Checks.due("the length is n, not the TAPE's", -9, () -> x.pool(6));
        Checks.due("at n", 6, x::fault);
    }

    // Terms: "FAULTS, the first from the left, at its first byte"
    private static void theFirstFromTheLeft() {
        pool("chair 10 10;x", -8, 6);
        pool("chair 1 10;x", -8, 8);
        pool("chair x 10;", -9, 6);
        pool("hire 100 x", -8, 5);
        pool("guest 24 23 0 10;", -8, 6);
        pool("guest 0 23 0 10;", -8, 8);
        pool("guest 0 1 0 10;", -8, 10);
        pool("guest 0 1 1000 10;", -8, 10);
        pool("chair 1 1;".repeat(9) + "hire 100;", -7, 80);
        pool("hire 100;" + "chair 1 1;".repeat(9), -8, 5);
        habit("(100", -8, 1);
        habit("(100))", -8, 1);
        habit("1 1 100", -9, 2);
        habit("((((((100", -8, 6);
        habit("100((((((((", -8, 0);
        book("61 9 24;", -8, 0);
        book("0 9 24;", -8, 2);
        book("0 0 24;x", -8, 4);
        book("0 x 24;", -9, 2);
    }

    // Terms: "of one the least"
    private static void ofOneTheLeast() {
        String sixty = "hire 1;".repeat(60);
        pool(sixty + "hires", -9, 420);
        pool(sixty + ";", -9, 420);
        pool(sixty + "1", -9, 420);
        pool("chair 1 1;".repeat(8) + "chairs 1 1;", -9, 80);
        pool("guest 0 1 2 0;".repeat(8) + "gues", -9, 112);
        String both = "chair 1 1;".repeat(8) + "hire 1;".repeat(52);
        pool(both + "chair 1 1;", -7, both.length());
        String twelve = "1 0 1;".repeat(12);
        book(twelve + "60", -7, 72);
        book(twelve + "61", -8, 72);
        book(twelve + "99999999999", -8, 72);
        book(twelve + "x", -9, 72);
        book(twelve + ";", -9, 72);
        habit("((((((mosts", -9, 6);
        habit("((((((iff", -9, 6);
        habit("((((((100", -8, 6);
    }

    // 4: "Likewise the HABIT of a GUEST (n to 150; ..)"
    private static void habitN() {
        Supplier<PoolTowels> made = () -> {
            PoolTowels x = Edges.with(TWO);
            Feeding.feed(x, (" ".repeat(148) + "17" + "9".repeat(10)).getBytes());
            return x;
        };
        Edges.within("4: habit of 160", 0, 150, made, (x, n) -> x.habit(1, n));
        Edges.within("4: habit of none", 0, 0, () -> Edges.with(TWO), (x, n) -> x.habit(1, n));
        Supplier<PoolTowels> twenty = () -> {
            PoolTowels x = Edges.with(TWO);
            Feeding.feed(x, "5                   ".getBytes());
            return x;
        };
        Edges.within("4: habit of twenty", 0, 20, twenty, (x, n) -> x.habit(1, n));
        PoolTowels x = made.get();
        Edges.badArgument("4: 151", x, () -> x.habit(1, 151));
        Checks.due("4: the TAPE stays", 160, () -> x.count(1));
        Checks.due("4: 150", 1, () -> x.habit(1, 150));
        Checks.due("4: all of them", 17, () -> x.would(1, 0, 0, 0, 0, 0, 0));
        Checks.due("4: the TAPE is empty", 0, () -> x.count(1));
        PoolTowels y = made.get();
        Checks.due("4: 149", 1, () -> y.habit(1, 149));
        Checks.due("4: all but the last", 1, () -> y.would(1, 0, 0, 0, 0, 0, 0));
        PoolTowels z = made.get();
        Checks.due("4: 148 blanks", -9, () -> z.habit(1, 148));
        Checks.due("4: at the length", 148, z::fault);
        Checks.due("4: the TAPE is empty behind a FAULT", 0, () -> z.count(1));
    }

    // 4: "NoSuchElementException: no such GUEST (the TAPE stays; so below, CHAIRS too, ahead of others)."
    private static void habitGuests() {
        Supplier<PoolTowels> made = () -> {
            PoolTowels x = Edges.with(TWO);
            Feeding.feed(x, "5                   ".getBytes());
            return x;
        };
        Edges.elements("4: habit", 2, made, (x, g) -> x.habit(g, 1));
        Edges.noElements("4: habit with a wrong n", 2, made, (x, g) -> x.habit(g, 21));
        Edges.noElements("4: habit with a wrong n", 2, made, (x, g) -> x.habit(g, -1));
        PoolTowels x = made.get();
        Edges.noElement("4: GUEST 2", x, () -> x.habit(2, 1));
        Checks.due("4: the TAPE stays", 20, () -> x.count(1));
        Checks.due("4: as it was", 1, () -> x.habit(1, 1));
        Checks.due("4: and is read", 5, () -> x.would(1, 0, 0, 0, 0, 0, 0));
    }

    // 4: "Likewise": a FAULT leaves all but the TAPE; a HABIT leaves all but the one of that GUEST
    private static void habitKeeps() {
        for (String wrong : new String[] {"5 +", "100", "(((((((5)))))))", "day 5"}) {
            PoolTowels x = full();
            String was = Edges.all(x);
            Checks.due("4: a FAULT", 1, () -> Feeding.habit(x, 0, wrong) < -6 ? 1 : 0);
            Checks.due("4: the HABIT stays", 7, () -> x.did(0, 0));
            Checks.due("4: it asks for no day", 10, () -> x.round(0));
            Feeding.habit(x, 0, "mine - 1");
            Checks.same("4: all stays", was, Edges.all(x));
        }
        PoolTowels x = full();
        Checks.due("4: another HABIT", 1, () -> Feeding.habit(x, 1, "3"));
        Checks.due("4: the DAY stays", 3, () -> x.told(5));
        Checks.due("4: the BOOK stays", 2, () -> x.told(6));
        Checks.due("4: IMAGES stay", 1, () -> x.count(0));
        Checks.due("4: changes stay", 3, () -> x.count(2));
        Checks.due("4: the other's stays", 7, () -> x.did(0, 0));
        Checks.due("4: it is so on the DAY that is", 3, () -> x.did(1, 0));
        x.day(0);
        Checks.due("4: on DAY 0 he comes as he wakes", 9, () -> x.did(1, 0));
        x.day(1);
        Checks.due("4: of all DAYS", 3, () -> x.did(1, 0));
        x.day(199);
        Checks.due("4: of all DAYS", 3, () -> x.did(1, 0));
    }

    // Terms: "A HABIT (of a GUEST; \"wake\" without)"
    private static void habitWithout() {
        PoolTowels x = Edges.with(TWO);
        Checks.due("without", 11, () -> x.would(1, 0, 1, 2, 1, 4, 5));
        x.wakes(1, 4);
        Checks.due("without, woken", 4, () -> x.would(1, 0, 1, 2, 1, 4, 5));
        x.day(9);
        Checks.due("without, on a DAY", 4, () -> x.did(1, 0));
    }

    // Terms: "is a text of up to 150 bytes"
    private static void habitBytes() {
        habit(" ".repeat(149) + "5", 1, -1);
        habit("5" + " ".repeat(149), 1, -1);
        habit("5" + "+0".repeat(74) + " ", 1, -1);
        habit(" 5" + "+0".repeat(74), 1, -1);
        habit("5" + "+0".repeat(74) + "+", -9, 150);
        habit("0".repeat(148) + "99", 1, -1);
        habit("0".repeat(147) + "100", -8, 0);
        value("0" + "+1".repeat(9) + "+0".repeat(65), 9);
        value("0" + "+0".repeat(65) + "+1".repeat(9), 9);
        value("8" + "*1".repeat(74), 8);
        value("8" + "-1*1".repeat(37), 0);
        // the longest ones of all eight, each by its own
        PoolTowels x = Edges.with("guest 9 10 12 0;".repeat(8));
        for (int g = 0; g < 8; g++) {
            Feeding.habit(x, g, " " + g + "+1".repeat(g) + "+0".repeat(74 - g));
        }
        x.day(1);
        for (int g = 0; g < 8; g++) {
            int guest = g;
            Checks.due("the longest HABIT of " + g, 2 * g, () -> x.would(guest, 0, 0, 0, 0, 0, 0));
            Checks.due("on DAY 1 by the longest of " + g, 2 * g, () -> x.did(guest, 0));
        }
    }

    // Terms: "E, at the end nothing more"
    private static void nothingMore() {
        for (String more : new String[] {"1", "mine", ";", ")", "]", ",", "<1", "=1", ">1", "then 1", "else 1", "(1)", "[1]"}) {
            habit("5 " + more, -9, 2);
            habit("(5) " + more, -9, 4);
            habit("mine " + more, -9, 5);
        }
    }

    // Terms: "N (0 to 99)"
    private static void habitNumbers() {
        habit("0", 1, -1);
        habit("99", 1, -1);
        habit("100", -8, 0);
        habit("mine + 100", -8, 7);
        habit("least[99,100]", -8, 9);
        habit("most[100,1]", -8, 5);
        habit("if 100 < 1 then 1 else 1", -8, 3);
        habit("if 1 < 100 then 1 else 1", -8, 7);
        habit("if 1 < 1 then 100 else 1", -8, 14);
        habit("if 1 < 1 then 1 else 100", -8, 21);
        habit("-1", -9, 0);
        habit("1+-1", -9, 2);
        habit("1++1", -9, 2);
        value("99 - 99 + 0", 0);
        value("99 - 90", 9);
    }

    // Terms: "a 7th of ( least most if that is open at one time"
    private static void sevenOpen() {
        String[] opens = {"(", "least[", "most[", "if "};
        String[] closes = {")", ",1]", ",1]", "=1then 1else 1"};
        for (int k = 0; k < opens.length; k++) {
            String six = opens[k].repeat(6);
            if (six.length() + 1 + closes[k].length() * 6 <= 150) {
                habit(six + "1" + closes[k].repeat(6), 1, -1);
            }
            for (int j = 0; j < opens.length; j++) {
                habit(six + opens[j] + "1", -7, six.length());
                habit(six + " " + opens[j], -7, six.length() + 1);
                habit(six + "1+" + opens[j] + "1", -7, six.length() + 2);
                habit(six + "1*" + opens[j] + "1", -7, six.length() + 2);
            }
        }
        habit("((((((1))))))+((((((1))))))", 1, -1);
        habit("((((((1)))))*(((((1))))))", 1, -1);
        habit("((((((1)))))*((((((1", -7, 18);
        habit("least[(((((1))))),(((((1)))))]", 1, -1);
        habit("least[((((((1", -7, 11);
        habit("least[1,((((((1", -7, 13);
        habit("(least[1,2])+(most[1,2])+((((((1))))))", 1, -1);
        habit("least[1,2]+least[1,2]+least[1,2]+least[1,2]+least[1,2]+least[1,2]+least[1,2]", 1, -1);
        habit("(1)+(1)+(1)+(1)+(1)+(1)+(1)+(1)", 1, -1);
    }

    // Terms: "(an if till its last E ends)"
    private static void ifTillItsLastEnds() {
        habit("if (((((1)))))=1 then 1 else 1", 1, -1);
        habit("if ((((((1", -7, 8);
        habit("if 1=(((((1))))) then 1 else 1", 1, -1);
        habit("if 1=((((((1", -7, 10);
        habit("if 1=1 then (((((1))))) else 1", 1, -1);
        habit("if 1=1 then ((((((1", -7, 17);
        habit("if 1=1 then 1 else (((((1)))))", 1, -1);
        habit("if 1=1 then 1 else ((((((1", -7, 24);
        habit("if 1=1 then 1 else 1+((((((1", -7, 26);
        habit("if 1=1 then 1 else 1*((((((1", -7, 26);
        habit("(if 1=1 then 1 else 1)+((((((1))))))", 1, -1);
        habit("least[if 1=1 then 1 else 1,(((((1)))))]", 1, -1);
        habit("least[if 1=1 then 1 else 1,((((((1", -7, 32);
        String chain = "if 1=2 then 1 else ";
        habit(chain.repeat(6) + "5", 1, -1);
        habit(chain.repeat(6) + "if 1=2", -7, 114);
        habit(chain.repeat(5) + "(5)", 1, -1);
        habit("if 1=2 then if 1=2 then if 1=2 then if 1=2 then if 1=2 then if 1=2 then 1 else 2 else 3 else 4 else 5 else 6 else 7",
            1, -1);
    }

    /** As much as can be open at one time is reckoned rightly. */
    private static void deepest() {
        value("9-1*if 0=1 then 0 else ".repeat(6) + "9-1*2", 7);
        value("9-1*if 0=1 then 0 else ".repeat(5) + "9-1*2", 2);
        value("9-1*(".repeat(6) + "9-1*2" + ")".repeat(6), 7);
        value("9-1*least[99,".repeat(6) + "9-1*2" + "]".repeat(6), 7);
        value("9-1*most[0,".repeat(5) + "9-1*2" + "]".repeat(5), 2);
        value("if 1=2 then 1 else ".repeat(6) + "5", 5);
        value("if 1=1 then if 1=1 then if 1=1 then if 1=1 then if 1=1 then if 1=2 then 1 else 2 else 3 else 4 else 5 else 6 else 7",
            2);
    }

    // Terms: "Values are whole numbers of 32 bits that wrap"
    private static void wraps() {
        String half = "64*64*64*64*64*2";
        // that is the least of all numbers, as it has wrapped; one less is the greatest
        value("if " + half + " < 0 then 5 else 6", 5);
        value("if " + half + "-1 > 0 then 5 else 6", 5);
        value("if " + half + "-1 < 0 then 5 else 6", 6);
        value("if " + half + "-1+1 < 0 then 5 else 6", 5);
        value("if " + half + "*2 = 0 then 5 else 6", 5);
        value("if 0-" + half + " = " + half + " then 5 else 6", 5);
        value("if 64*64*64*64*64 > 0 then 5 else 6", 5);
        value(half, 0);
        value(half + "-1", 23);
        value("least[" + half + ",7]+9-" + half, 9);
        value("most[" + half + ",7]", 7);
        value("least[" + half + "-1,7]", 7);
        // 99 to the 5th is 9,509,900,499, less two times 2 to the 32nd 919,965,907
        value("99*99*99*99*99/99/99/99/99", 9);
        value("99*99*99*99*99%98", 21);
        value("3+99*99*99*99*99%98-99*99*99*99*99%98", 3);
    }

    // Terms: "/ cuts, % leaves (with the sign of what is divided)"
    private static void cutsAndLeaves() {
        value("7/2", 3);
        value("9+(0-7)/2", 6);
        value("9+7/(0-2)", 6);
        value("(0-7)/(0-2)", 3);
        value("7%2", 1);
        value("9+(0-7)%2", 8);
        value("9+7%(0-2)", 10);
        value("9+(0-7)%(0-2)", 8);
        value("9+(0-8)%4", 9);
        value("1/2", 0);
        value("9+(0-1)/2", 9);
        // the least number by -1 wraps to itself, and leaves nothing
        value("64*64*64*64*64*2/(0-1)", 0);
        value("if 64*64*64*64*64*2/(0-1) < 0 then 5 else 6", 5);
        value("7+64*64*64*64*64*2%(0-1)", 7);
    }

    // Terms: "by 0 both are 0"
    private static void byNothing() {
        value("7/0+3", 3);
        value("7%0+3", 3);
        value("(0-7)/0+3", 3);
        value("(0-7)%0+3", 3);
        value("0/0+3", 3);
        value("0%0+3", 3);
        value("7/(3-3)+4", 4);
        value("7%off+4", 4);
        value("9/0*5+2", 2);
        value("64*64*64*64*64*2/0+1", 1);
    }

    // Terms: "C: E S E; S: <, > or ="; "chairs", "guests" (how many there are)
    private static void signsAndCounts() {
        String[] signs = {"<", ">", "="};
        boolean[][] so = {{true, false, false}, {false, false, true}, {false, true, false}};
        for (int s = 0; s < 3; s++) {
            for (int k = 0; k < 3; k++) {
                value("if " + (k + 4) + signs[s] + "5 then 7 else 8", so[s][k] ? 7 : 8);
                value("if 0-" + (6 - k) + signs[s] + "0-5 then 7 else 8", so[s][k] ? 7 : 8);
            }
        }
        for (int many = 1; many <= 8; many++) {
            PoolTowels x = Edges.with("chair 1 1;".repeat(8 - many) + "guest 0 5 9 0;".repeat(many));
            Feeding.habit(x, many - 1, "chairs + 9 - guests * 0");
            int last = many - 1;
            int chairs = 8 - many;
            Checks.due("chairs", chairs + 9, () -> x.would(last, 0, 0, 0, 0, 0, 0));
            Feeding.habit(x, many - 1, "guests + 9 - chairs * 0");
            Checks.due("guests", last + 10, () -> x.would(last, 0, 0, 0, 0, 0, 0));
            x.day(1);
            Checks.due("guests on DAY 1", last + 10, () -> x.did(last, 0));
        }
    }

    // Terms: "He comes in the HALF it tells, 0 at least, 23 at most."
    private static void comesWithinTheDay() {
        int[][] pairs = {{-1, 0}, {-99, 0}, {0, 0}, {1, 1}, {22, 22}, {23, 23}, {24, 23}, {99, 23}};
        for (int[] pair : pairs) {
            String text = pair[0] < 0 ? "0-" + -pair[0] : Integer.toString(pair[0]);
            value(text, pair[1]);
            PoolTowels x = Edges.with("chair 1 1;guest 5 6 23 0;");
            Feeding.habit(x, 0, text);
            x.day(1);
            Checks.due("on DAY 1 by " + text, pair[1], () -> x.did(0, 0));
            // what he tells is by the HALF in which he came, not by the number told
            Feeding.habit(x, 0, "if day = 1 then " + text + " else mine + 0");
            x.day(2);
            Checks.due("mine behind " + text, pair[1], () -> x.did(0, 0));
        }
    }

    // 5: "Likewise the BOOK (n to 150): how many lines."
    private static void bookN() {
        Supplier<PoolTowels> made = () -> {
            PoolTowels x = Edges.with(TWO);
            Feeding.feed(x, ("0 0 1" + " ".repeat(144) + ";" + "x".repeat(10)).getBytes());
            return x;
        };
        Edges.within("5: book of 160", 0, 150, made, PoolTowels::book);
        Edges.within("5: book of none", 0, 0, () -> Edges.with(TWO), PoolTowels::book);
        Supplier<PoolTowels> twenty = () -> {
            PoolTowels x = Edges.with(TWO);
            Feeding.feed(x, "0 0 1;              ".getBytes());
            return x;
        };
        Edges.within("5: book of twenty", 0, 20, twenty, PoolTowels::book);
        PoolTowels x = made.get();
        Edges.badArgument("5: 151", x, () -> x.book(151));
        Checks.due("5: the TAPE stays", 160, () -> x.count(1));
        Checks.due("5: 150", 1, () -> x.book(150));
        Checks.due("5: the TAPE is empty", 0, () -> x.count(1));
        PoolTowels y = made.get();
        Checks.due("5: 149", -9, () -> y.book(149));
        Checks.due("5: at the length", 149, y::fault);
        Checks.due("5: the TAPE is empty behind a FAULT", 0, () -> y.count(1));
        PoolTowels z = Edges.with(TWO);
        Feeding.book(z, "0 0 1;0 1 2;");
        Checks.due("5: a BOOK without lines", 0, () -> z.book(0));
        Checks.due("5: is the BOOK", 0, () -> z.told(6));
    }

    // Terms: "12 lines at most", "3 a .. line (at its D) too many"
    private static void bookLines() {
        for (int many = 0; many <= 12; many++) {
            book("0 1 11;".repeat(many), many, -1);
        }
        String twelve = "0 1 11;".repeat(12);
        book(twelve + "    ", 12, -1);
        book(twelve + "0 1 11;", -7, 84);
        book(twelve + "  0 1 11;", -7, 86);
        book(twelve + "0", -7, 84);
        book(twelve + "0 9 99;", -7, 84);
        book("0 1 11;".repeat(11) + "0 1 24;", -8, 81);
        PoolTowels x = Edges.with(TWO);
        Feeding.book(x, twelve);
        Checks.due("5: all twelve are kept", 12, x::right);
        Feeding.book(x, "0 1 11;".repeat(11) + "0 1 10;");
        Checks.due("5: the twelfth is kept", 11, x::right);
    }

    // Terms: "on DAY D (0 to 60) GUEST G came in HALF H (0 to 23)"
    private static void bookNumbers() {
        book("0 0 0;", 1, -1);
        book("60 1 23;", 1, -1);
        book("61 1 23;", -8, 0);
        book("60 2 23;", -8, 3);
        book("60 8 23;", -8, 3);
        book("60 1 24;", -8, 5);
        book("-1 0 0;", -9, 0);
        book("0 -1 0;", -9, 2);
        book("0 0 -1;", -9, 4);
        book("0 0;", -9, 3);
        book("0;", -9, 1);
        book(";", -9, 0);
        book("0 0 0 0;", -9, 6);
        book("0 0 0;;", -9, 6);
        book("0 0 0,", -9, 5);
        PoolTowels eight = Edges.with("guest 0 1 2 0;".repeat(8));
        Checks.due("5: GUEST 7 of eight", 1, () -> Feeding.book(eight, "0 7 0;"));
        Checks.due("5: GUEST 8 of eight", -8, () -> Feeding.book(eight, "0 8 0;"));
    }

    // 5: "Likewise": a FAULT leaves all but the TAPE; another BOOK leaves all else
    private static void bookKeeps() {
        for (String wrong : new String[] {"9 0 9;9 1 9;9", "9 0 9;61 0 0;", "9 0 9;".repeat(13), "x"}) {
            PoolTowels x = full();
            String was = Edges.all(x);
            Checks.due("5: a FAULT", 1, () -> Feeding.book(x, wrong) < -6 ? 1 : 0);
            Checks.due("5: its lines stay", 2, () -> x.told(6));
            Checks.due("5: as they were", 2, x::right);
            Feeding.habit(x, 0, "mine - 1");
            Checks.same("5: all stays", was, Edges.all(x));
        }
        PoolTowels x = full();
        Checks.due("5: another BOOK", 1, () -> Feeding.book(x, "0 0 9;"));
        Checks.due("5: it alone counts", 0, x::right);
        Checks.due("5: the DAY stays", 3, () -> x.told(5));
        Checks.due("5: HABITS stay", 7, () -> x.did(0, 0));
        Checks.due("5: IMAGES stay", 1, () -> x.count(0));
        Checks.due("5: changes stay", 3, () -> x.count(2));
    }

    // 5 and Terms: without GUESTS no line can be
    private static void bookWithoutGuests() {
        PoolTowels x = new PoolTowels();
        Checks.due("5: no lines", 0, () -> Feeding.book(x, "  "));
        Checks.due("5: G is none such", -8, () -> Feeding.book(x, "0 0 0;"));
        Checks.due("5: at G", 2, x::fault);
        Checks.due("5: no lines are kept", 0, () -> x.told(6));
    }

    // 6: "The place of the FAULT of the latest text; NONE without."
    private static void faultOfTheLatest() {
        PoolTowels x = new PoolTowels();
        Checks.due("6: no text yet", -1, x::fault);
        Feeding.pool(x, "hire x;");
        Checks.due("6: of a POOL", 5, x::fault);
        Checks.due("6: asked again", 5, x::fault);
        Feeding.pool(x, TWO);
        Checks.due("6: a POOL without", -1, x::fault);
        Feeding.habit(x, 0, "mine -");
        Checks.due("6: of a HABIT", 6, x::fault);
        Feeding.book(x, "0 0");
        Checks.due("6: of a BOOK", 3, x::fault);
        Feeding.habit(x, 0, "mine");
        Checks.due("6: a HABIT without", -1, x::fault);
        Feeding.book(x, "x");
        Checks.due("6: place 0", 0, x::fault);
        Feeding.book(x, "0 0 1;");
        Checks.due("6: a BOOK without", -1, x::fault);
        Feeding.pool(x, " ".repeat(600).substring(1) + "x");
        Checks.due("6: place 599", 599, x::fault);
        x.feed(0x78202020, 0, 0, 0, 0);
        Checks.due("6: feeding is no text yet", 599, x::fault);
        x.hire(1);
        x.image();
        x.restore();
        x.undo();
        x.day(4);
        Checks.due("6: nor are changes", 599, x::fault);
        Checks.due("6: a text of no bytes", 0, () -> x.pool(0));
        Checks.due("6: is the latest", -1, x::fault);
    }

    // 6: a refused call brought no text
    private static void faultIsNotOfRefused() {
        PoolTowels x = Edges.with(TWO);
        Feeding.book(x, "0 0 x");
        Edges.badArgument("6: pool(1) of none", x, () -> x.pool(1));
        Edges.badArgument("6: book(1) of none", x, () -> x.book(1));
        Edges.badArgument("6: habit(0, 1) of none", x, () -> x.habit(0, 1));
        Edges.noElement("6: habit(2, 0)", x, () -> x.habit(2, 0));
        Checks.due("6: the place stays", 4, x::fault);
    }
}
