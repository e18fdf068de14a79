import java.util.function.Supplier;

/** The boundary cases of promises 37 to 44, and of an object's many calls: a method for each sentence, which stands above it. */
public final class ChangeEdgesTest {
    private static final String TWO = "chair 1 1;guest 6 8 14 1;guest 7 8 20 2;goes 4;off 3;hire 5;";

    private ChangeEdgesTest() {
    }

    public static void main(String[] args) {
        hotelRange();
        hireRange();
        wakesRange();
        twentyChanges();
        refusedWhenFull();
        changesOfNothing();
        undoNone();
        undoTheLatest();
        undoAndGoOn();
        threeImages();
        imageOfAll();
        imageOfTwentyChanges();
        restoreNone();
        restoreTheLatest();
        restoreLeavesTheRest();
        statusOthers();
        statusByReason();
        statusOfNoRefusal();
        countOthers();
        count();
        manyCalls();
        Checks.end();
    }

    private static Supplier<PoolTowels> two() {
        return () -> Edges.with(TWO);
    }

    /** An object that has as many changes as can be. */
    private static PoolTowels full() {
        PoolTowels x = Edges.with(TWO);
        for (int i = 0; i < 20; i++) {
            x.hire(20 + i);
        }
        return x;
    }

    // 37: "The hotel: G (0 to 23), L (1 to 23): 1"
    private static void hotelRange() {
        Edges.within("37: G", 0, 23, two(), (x, g) -> x.hotel(g, 1));
        Edges.within("37: L", 1, 23, two(), (x, l) -> x.hotel(1, l));
        int[][] ends = {{0, 1}, {0, 23}, {23, 1}, {23, 23}};
        for (int[] pair : ends) {
            PoolTowels x = Edges.with(TWO);
            Checks.due("37: hotel", 1, () -> x.hotel(pair[0], pair[1]));
            Checks.due("37: G", pair[0], () -> x.told(2));
            Checks.due("37: L", pair[1], () -> x.told(3));
            Checks.due("37: P stays", 5, () -> x.told(4));
        }
        // the DAYS are by the new ones at once
        PoolTowels x = Edges.with("chair 1 1;guest 0 9 12 0;");
        Checks.due("37: IDLE ahead of it", 9, () -> x.sums(2));
        x.hotel(4, 1);
        Checks.due("37: IDLE behind it", 4, () -> x.sums(2));
        x.hotel(4, 5);
        Checks.due("37: IDLE by an L of 5", 8, () -> x.sums(2));
        x.hotel(0, 1);
        Checks.due("37: IDLE without", 9, () -> x.sums(2));
    }

    // 38: "The hire is another one (0 to 99): 1"
    private static void hireRange() {
        Edges.within("38: P", 0, 99, two(), PoolTowels::hire);
        for (int p : new int[] {0, 1, 98, 99}) {
            PoolTowels x = Edges.with(TWO);
            int got = x.did(0, 3);
            int took = x.did(0, 5);
            Checks.due("38: hire", 1, () -> x.hire(p));
            Checks.due("38: P", p, () -> x.told(4));
            Checks.due("38: NET by it", got - took * p, () -> x.did(0, 4));
            Checks.due("38: G stays", 4, () -> x.told(2));
        }
    }

    // 39: "A GUEST wakes in another HALF (0 to 23): 1"
    private static void wakesRange() {
        Edges.within("39: HALF", 0, 23, two(), (x, half) -> x.wakes(1, half));
        Edges.elements("39: wakes", 2, two(), (x, g) -> x.wakes(g, 23));
        Edges.noElements("39: wakes in a wrong HALF", 2, two(), (x, g) -> x.wakes(g, 24));
        Edges.noElements("39: wakes in a wrong HALF", 2, two(), (x, g) -> x.wakes(g, -1));
        for (int half : new int[] {0, 1, 22, 23}) {
            PoolTowels x = Edges.with(TWO);
            Checks.due("39: wakes", 1, () -> x.wakes(1, half));
            Checks.due("39: U", half, () -> x.guest(1, 0));
            Checks.due("39: he comes", half, () -> x.did(1, 0));
            Checks.due("39: the other's U stays", 6, () -> x.guest(0, 0));
        }
        PoolTowels eight = Edges.with("guest 0 1 2 0;".repeat(8));
        Checks.due("39: GUEST 7", 1, () -> eight.wakes(7, 5));
        Checks.due("39: his U", 5, () -> eight.guest(7, 0));
        Checks.due("39: undone", 0, eight::undo);
        Checks.due("39: his U again", 0, () -> eight.guest(7, 0));
    }

    // 37, 38, 39: "0: there are 20 changes."
    private static void twentyChanges() {
        PoolTowels x = Edges.with(TWO);
        for (int i = 0; i < 20; i++) {
            int k = i;
            Checks.due("37 to 39: change " + i, 1, () -> k % 3 == 0 ? x.hotel(1, 2) : k % 3 == 1 ? x.hire(k) : x.wakes(k % 2, k));
            Checks.due("44: changes", i + 1, () -> x.count(2));
        }
        String was = Edges.all(x);
        for (int i = 0; i < 2; i++) {
            Checks.due("37: a 21st", 0, () -> x.hotel(9, 9));
            Checks.due("38: a 21st", 0, () -> x.hire(77));
            Checks.due("39: a 21st", 0, () -> x.wakes(0, 22));
            Checks.due("39: a 21st of GUEST 1", 0, () -> x.wakes(1, 22));
        }
        Checks.same("37 to 39: nothing is another", was, Edges.all(x));
        Checks.due("43: it is no refusal", 0, () -> x.status(0) + x.status(1) + x.status(2));
        Checks.due("40: one is undone", 19, x::undo);
        Checks.due("38: then there is room for one", 1, () -> x.hire(77));
        Checks.due("38: for one alone", 0, () -> x.hire(78));
        Checks.due("38: P", 77, () -> x.told(4));
        // nor do IMAGES and DAYS count among them
        x.undo();
        x.image();
        x.day(9);
        Checks.due("39: room for one still", 1, () -> x.wakes(1, 1));
        Checks.due("39: for one alone", 0, () -> x.wakes(1, 2));
    }

    // 37 to 39: wrong arguments are refused, even if there are 20 changes
    private static void refusedWhenFull() {
        Edges.within("37: G of 20", 0, 23, ChangeEdgesTest::full, (x, g) -> x.hotel(g, 1));
        Edges.within("37: L of 20", 1, 23, ChangeEdgesTest::full, (x, l) -> x.hotel(1, l));
        Edges.within("38: P of 20", 0, 99, ChangeEdgesTest::full, PoolTowels::hire);
        Edges.within("39: HALF of 20", 0, 23, ChangeEdgesTest::full, (x, half) -> x.wakes(1, half));
        Edges.elements("39: wakes of 20", 2, ChangeEdgesTest::full, (x, g) -> x.wakes(g, 0));
    }

    // 37 to 40: what is told as it was is a change too, and is undone
    private static void changesOfNothing() {
        PoolTowels x = Edges.with(TWO);
        Checks.due("37: as it is", 1, () -> x.hotel(4, 3));
        Checks.due("38: as it is", 1, () -> x.hire(5));
        Checks.due("39: as it is", 1, () -> x.wakes(0, 6));
        Checks.due("44: three changes", 3, () -> x.count(2));
        Checks.due("40: undone", 2, x::undo);
        Checks.due("40: undone", 1, x::undo);
        Checks.due("40: undone", 0, x::undo);
        Checks.due("40: none is left", -1, x::undo);
    }

    // 40: "-1: there is none."
    private static void undoNone() {
        PoolTowels x = Edges.with(TWO);
        String was = Edges.all(x);
        Checks.due("40: none", -1, x::undo);
        Checks.due("40: none still", -1, x::undo);
        Checks.same("40: nothing is another", was, Edges.all(x));
        Checks.due("43: it is no refusal", 0, () -> x.status(0) + x.status(1) + x.status(2));
        Edges.badArgument("38: a refused one", x, () -> x.hire(100));
        Checks.due("40: is none", -1, x::undo);
        x.day(3);
        Checks.due("40: the DAY is none", -1, x::undo);
        Checks.due("40: it stays", 3, () -> x.told(5));
        Feeding.habit(x, 0, "1");
        Feeding.book(x, "0 0 1;");
        x.image();
        Checks.due("40: nor are texts and IMAGES", -1, x::undo);
        Checks.due("40: the HABIT stays", 1, () -> x.did(0, 0));
        x.hire(1);
        Checks.due("40: one", 0, x::undo);
        Checks.due("40: none again", -1, x::undo);
    }

    // 40: "The latest of these three changes that was not undone is undone: how many are left"
    private static void undoTheLatest() {
        PoolTowels x = Edges.with(TWO);
        x.hotel(1, 9);
        x.wakes(0, 3);
        x.hire(8);
        x.wakes(1, 2);
        x.wakes(0, 4);
        x.hotel(2, 8);
        int[][] due = {{5, 1, 9, 8, 4, 2}, {4, 1, 9, 8, 3, 2}, {3, 1, 9, 8, 3, 7}, {2, 1, 9, 5, 3, 7}, {1, 1, 9, 5, 6, 7},
            {0, 4, 3, 5, 6, 7}};
        for (int[] row : due) {
            Checks.due("40: undo", row[0], x::undo);
            Checks.due("40: G", row[1], () -> x.told(2));
            Checks.due("40: L", row[2], () -> x.told(3));
            Checks.due("40: P", row[3], () -> x.told(4));
            Checks.due("40: U of GUEST 0", row[4], () -> x.guest(0, 0));
            Checks.due("40: U of GUEST 1", row[5], () -> x.guest(1, 0));
            Checks.due("40: he comes so", row[5], () -> x.did(1, 0));
            Checks.due("44: changes", row[0], () -> x.count(2));
        }
    }

    // 40: "that was not undone"
    private static void undoAndGoOn() {
        PoolTowels x = Edges.with(TWO);
        x.hire(1);
        x.hire(2);
        x.undo();
        x.hire(3);
        Checks.due("40: back to 1", 1, x::undo);
        Checks.due("40: P", 1, () -> x.told(4));
        Checks.due("40: back to what was told", 0, x::undo);
        Checks.due("40: P", 5, () -> x.told(4));
        PoolTowels many = full();
        for (int i = 19; i >= 0; i--) {
            Checks.due("40: of twenty", i, many::undo);
        }
        Checks.due("40: P as told", 5, () -> many.told(4));
        Checks.due("40: none is left", -1, many::undo);
    }

    // 41: "how many there are; -1: there are 3."
    private static void threeImages() {
        PoolTowels x = Edges.with(TWO);
        for (int i = 1; i <= 3; i++) {
            int many = i;
            Checks.due("41: image", many, x::image);
            Checks.due("44: IMAGES", many, () -> x.count(0));
        }
        x.hire(9);
        Checks.due("41: a fourth", -1, x::image);
        Checks.due("41: a fourth still", -1, x::image);
        Checks.due("44: IMAGES", 3, () -> x.count(0));
        Checks.due("43: it is no refusal", 0, () -> x.status(0) + x.status(1) + x.status(2));
        Checks.due("42: the third", 2, x::restore);
        Checks.due("42: it is as it was", 5, () -> x.told(4));
        x.hire(8);
        Checks.due("41: room for one", 3, x::image);
        Checks.due("41: for one alone", -1, x::image);
        x.hire(7);
        Checks.due("42: the new one", 2, x::restore);
        Checks.due("42: P", 8, () -> x.told(4));
    }

    // 41: "An IMAGE of G, L, P, when GUESTS wake, the DAY, changes that can be undone"
    private static void imageOfAll() {
        PoolTowels x = Edges.with("chair 1 1;" + "guest 6 8 14 1;".repeat(8) + "goes 4;off 3;hire 5;");
        x.day(199);
        x.hotel(23, 22);
        x.hire(99);
        for (int g = 0; g < 8; g++) {
            x.wakes(g, 10 + g);
        }
        String was = Edges.all(x);
        Checks.due("41: image", 1, x::image);
        x.day(0);
        for (int i = 0; i < 10; i++) {
            x.undo();
        }
        x.hotel(1, 1);
        for (int g = 0; g < 8; g++) {
            x.wakes(g, g);
        }
        Checks.due("42: restore", 0, x::restore);
        Checks.same("42: all is as in the IMAGE", was, Edges.all(x));
        for (int i = 9; i >= 0; i--) {
            Checks.due("42: its changes are undone", i, x::undo);
        }
        Checks.due("42: G", 4, () -> x.told(2));
        Checks.due("42: P", 5, () -> x.told(4));
        for (int g = 0; g < 8; g++) {
            int guest = g;
            Checks.due("42: U of " + g, 6, () -> x.guest(guest, 0));
        }
    }

    // 41, 42: with none and with 20 changes
    private static void imageOfTwentyChanges() {
        PoolTowels x = Edges.with(TWO);
        x.image();
        for (int i = 0; i < 20; i++) {
            x.hire(20 + i);
        }
        x.image();
        for (int i = 0; i < 20; i++) {
            x.undo();
        }
        for (int i = 0; i < 20; i++) {
            x.wakes(0, i);
        }
        Checks.due("42: that of twenty", 1, x::restore);
        Checks.due("44: twenty", 20, () -> x.count(2));
        Checks.due("38: no room", 0, () -> x.hire(1));
        for (int i = 19; i >= 1; i--) {
            int left = i;
            Checks.due("42: undo", left, x::undo);
            Checks.due("42: P", 19 + left, () -> x.told(4));
        }
        Checks.due("42: that of none", 0, x::restore);
        Checks.due("44: none", 0, () -> x.count(2));
        Checks.due("40: none is left", -1, x::undo);
        Checks.due("42: P", 5, () -> x.told(4));
        Checks.due("42: U", 6, () -> x.guest(0, 0));
    }

    // 42: "-1: there is none."
    private static void restoreNone() {
        PoolTowels x = Edges.with(TWO);
        x.hire(9);
        x.day(2);
        String was = Edges.all(x);
        Checks.due("42: none", -1, x::restore);
        Checks.due("42: none still", -1, x::restore);
        Checks.same("42: nothing is another", was, Edges.all(x));
        Checks.due("43: it is no refusal", 0, () -> x.status(0) + x.status(1) + x.status(2));
        x.image();
        Checks.due("42: one", 0, x::restore);
        Checks.due("42: none again", -1, x::restore);
        Checks.due("42: P stays", 9, () -> x.told(4));
    }

    // 42: "All is as in the latest IMAGE, which is gone: how many are left"
    private static void restoreTheLatest() {
        PoolTowels x = Edges.with(TWO);
        for (int i = 1; i <= 3; i++) {
            x.day(i * 10);
            x.hotel(i, i + 1);
            x.hire(i * 2);
            x.wakes(1, i + 10);
            x.image();
        }
        x.day(0);
        x.hire(99);
        for (int i = 3; i >= 1; i--) {
            int k = i;
            Checks.due("42: left", k - 1, x::restore);
            Checks.due("42: the DAY", k * 10, () -> x.told(5));
            Checks.due("42: G", k, () -> x.told(2));
            Checks.due("42: L", k + 1, () -> x.told(3));
            Checks.due("42: P", k * 2, () -> x.told(4));
            Checks.due("42: U", k + 10, () -> x.guest(1, 0));
            Checks.due("42: he comes so", k + 10, () -> x.did(1, 0));
            Checks.due("42: changes", k * 3, () -> x.count(2));
            Checks.due("44: IMAGES", k - 1, () -> x.count(0));
        }
        Checks.due("42: none", -1, x::restore);
    }

    // 41, 42: HABITS, the BOOK, the TAPE and the FAULT are no part of an IMAGE
    private static void restoreLeavesTheRest() {
        PoolTowels x = Edges.with(TWO);
        Feeding.habit(x, 0, "2");
        Feeding.book(x, "0 0 1;");
        x.feed(0x20202020, 0x20202020, 0x20202020, 0x20202020, 0x20202020);
        x.image();
        x.pool(20);
        Checks.due("42: a POOL takes the IMAGES away", -1, x::restore);
        Feeding.pool(x, TWO);
        Feeding.habit(x, 0, "2");
        x.image();
        Feeding.habit(x, 0, "3");
        Feeding.book(x, "0 0 6;0 1 7;");
        Feeding.habit(x, 1, "3 +");
        x.feed(1, 2, 3, 4, 5);
        Checks.due("42: restore", 0, x::restore);
        Checks.due("42: the HABIT is the latest", 3, () -> x.would(0, 0, 0, 0, 0, 0, 0));
        Checks.due("42: so is the BOOK", 2, () -> x.told(6));
        Checks.due("42: the TAPE stays", 20, () -> x.count(1));
        Checks.due("42: so does the FAULT", 3, x::fault);
    }

    // 43: "0 .., 1 .., 2 ..; NONE for others."
    private static void statusOthers() {
        PoolTowels x = Edges.with(TWO);
        for (int what : new int[] {-1, 3, 4, Integer.MIN_VALUE, Integer.MAX_VALUE}) {
            Checks.due("43: status(" + what + ")", -1, () -> x.status(what));
        }
        Checks.due("43: that is no refusal", 0, () -> x.status(0) + x.status(1) + x.status(2));
    }

    // 43: "How many calls were refused"; "(No IMAGE keeps it.)"
    private static void statusByReason() {
        PoolTowels x = Edges.with("guest 0 1 2 0;".repeat(5));
        x.image();
        for (int i = 1; i <= 7; i++) {
            Edges.noElement("43: GUEST 5", x, () -> x.guest(5, 9));
            Edges.badArgument("43: what 9", x, () -> x.guest(4, 9));
            Edges.badState("43: 5 GUESTS", x, () -> x.still(2, 0));
            int many = i;
            Checks.due("43: NoSuchElementException", many, () -> x.status(0));
            Checks.due("43: IllegalArgumentException", many, () -> x.status(1));
            Checks.due("43: IllegalStateException", many, () -> x.status(2));
        }
        Checks.due("42: restore", 0, x::restore);
        Checks.due("43: no IMAGE keeps them", 21, () -> x.status(0) + x.status(1) + x.status(2));
        Feeding.pool(x, "chair 1 1;");
        Checks.due("43: no POOL takes them away", 21, () -> x.status(0) + x.status(1) + x.status(2));
        x.hire(1);
        x.undo();
        Checks.due("43: nothing is undone of them", 7, () -> x.status(2));
    }

    // 43: answers of NONE, 0 and -1, and FAULTS, are no refusals
    private static void statusOfNoRefusal() {
        PoolTowels x = full();
        x.hire(1);
        x.image();
        x.image();
        x.image();
        x.image();
        for (int i = 0; i < 4; i++) {
            x.restore();
        }
        for (int i = 0; i < 21; i++) {
            x.undo();
        }
        Feeding.pool(x, "x");
        Feeding.habit(x, 0, "x");
        Feeding.book(x, "x");
        for (int i = 0; i < 31; i++) {
            x.feed(0, 0, 0, 0, 0);
        }
        x.pool(600);
        x.count(9);
        x.status(9);
        Checks.due("43: none", 0, () -> x.status(0) + x.status(1) + x.status(2));
    }

    // 44: "0 IMAGES, 1 bytes of the TAPE, 2 changes that can be undone; NONE for others."
    private static void countOthers() {
        PoolTowels x = Edges.with(TWO);
        for (int what : new int[] {-1, 3, 4, Integer.MIN_VALUE, Integer.MAX_VALUE}) {
            Checks.due("44: count(" + what + ")", -1, () -> x.count(what));
        }
        Checks.due("43: that is no refusal", 0, () -> x.status(0) + x.status(1) + x.status(2));
    }

    // 44: from none to as many as can be
    private static void count() {
        PoolTowels x = full();
        Checks.due("44: no IMAGES", 0, () -> x.count(0));
        Checks.due("44: no bytes", 0, () -> x.count(1));
        Checks.due("44: 20 changes", 20, () -> x.count(2));
        for (int i = 0; i < 5; i++) {
            x.image();
        }
        for (int i = 0; i < 40; i++) {
            x.feed(0, 0, 0, 0, 0);
        }
        Checks.due("44: 3 IMAGES", 3, () -> x.count(0));
        Checks.due("44: 600 bytes", 600, () -> x.count(1));
        x.restore();
        x.undo();
        Checks.due("44: 2 IMAGES", 2, () -> x.count(0));
        Checks.due("44: 600 bytes still", 600, () -> x.count(1));
        Checks.due("44: 19 changes", 19, () -> x.count(2));
        x.pool(0);
        Checks.due("44: none of all", 0, () -> x.count(0) + x.count(1) + x.count(2));
    }

    /** "An object is used for at most 512 calls": the last of them answers as the first. */
    private static void manyCalls() {
        PoolTowels x = Edges.with(TWO);
        int calls = 1 + (TWO.length() + 19) / 20;
        int sum = x.sums(0);
        for (calls++; calls < 511; calls++) {
            int d = calls % 200;
            x.day(d);
        }
        Checks.due("the 511th call", 110, () -> x.day(0));
        Checks.due("the 512th call", sum, () -> x.sums(0));
    }
}
