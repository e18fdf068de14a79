/** Promises 37 to 44: changes, undone ones, IMAGES, refusals and counts. */
public final class ChangesTest {
    private static final String POOL =
        "chair 3 1;chair 2 2;guest 6 8 14 1;guest 7 8 20 2;guest 10 10 16 0;goes 4;off 2;hire 1;";

    private ChangesTest() {
    }

    public static void main(String[] args) {
        promise37();
        promise38();
        promise39();
        twentyChanges();
        promise40();
        promise41And42();
        imagesKeepChanges();
        imagesKeepTwentyChanges();
        promise43();
        promise44();
        Checks.end();
    }

    private static PoolTowels with(String pool) {
        PoolTowels x = new PoolTowels();
        Feeding.pool(x, pool);
        return x;
    }

    private static void promise37() {
        PoolTowels x = with(POOL);
        Checks.due("37: ahead of it", 1, () -> x.sums(5));
        Checks.due("37: hotel(0, 23)", 1, () -> x.hotel(0, 23));
        Checks.due("37: G", 0, () -> x.told(2));
        Checks.due("37: L", 23, () -> x.told(3));
        Checks.due("37: none is off", 0, () -> x.sums(5));
        Checks.due("37: hotel(23, 1)", 1, () -> x.hotel(23, 1));
        Checks.due("37: as it is", 1, () -> x.hotel(23, 1));
        Checks.due("37: that counts too", 3, () -> x.count(2));
        Checks.badArgument("37: G 24", () -> x.hotel(24, 1));
        Checks.badArgument("37: G -1", () -> x.hotel(-1, 1));
        Checks.badArgument("37: L 0", () -> x.hotel(1, 0));
        Checks.badArgument("37: L 24", () -> x.hotel(1, 24));
        Checks.due("37: refused ones do not", 3, () -> x.count(2));
        Checks.due("37: G stays", 23, () -> x.told(2));
        // DAYS that were gone through are so no more
        PoolTowels y = with("chair 1 1;guest 2 9 12 0;goes 4;");
        Feeding.habit(y, 0, "if off = 1 then mine + 1 else mine");
        Checks.due("37: in 7 he keeps it", 5, () -> y.round(0));
        y.hotel(0, 2);
        Checks.due("37: now in 2 already", 0, () -> y.round(0));
    }

    private static void promise38() {
        PoolTowels x = with(POOL);
        Checks.due("38: ahead of it", 12, () -> x.did(0, 4));
        Checks.due("38: hire(99)", 1, () -> x.hire(99));
        Checks.due("38: P", 99, () -> x.told(4));
        Checks.due("38: 14 - 2 * 99", -184, () -> x.did(0, 4));
        Checks.due("38: hire(0)", 1, () -> x.hire(0));
        Checks.due("38: 14", 14, () -> x.did(0, 4));
        Checks.badArgument("38: 100", () -> x.hire(100));
        Checks.badArgument("38: -1", () -> x.hire(-1));
        Checks.due("38: two changes", 2, () -> x.count(2));
    }

    private static void promise39() {
        PoolTowels x = with(POOL);
        Checks.due("39: wakes(2, 5)", 1, () -> x.wakes(2, 5));
        Checks.due("39: U", 5, () -> x.guest(2, 0));
        Checks.due("39: he comes in 5", 5, () -> x.did(2, 0));
        Checks.due("39: and has CHAIR 1", 1, () -> x.did(2, 1));
        Feeding.habit(x, 2, "wake + 1");
        x.day(1);
        Checks.due("39: HABITS ask for it", 6, () -> x.did(2, 0));
        Checks.due("39: wakes(2, 23)", 1, () -> x.wakes(2, 23));
        Checks.due("39: wakes(0, 0)", 1, () -> x.wakes(0, 0));
        Checks.noElement("39: GUEST 3", () -> x.wakes(3, 99));
        Checks.noElement("39: GUEST -1", () -> x.wakes(-1, 0));
        Checks.badArgument("39: HALF 24", () -> x.wakes(0, 24));
        Checks.badArgument("39: HALF -1", () -> x.wakes(0, -1));
        Checks.due("39: three changes", 3, () -> x.count(2));
    }

    private static void twentyChanges() {
        PoolTowels x = with(POOL);
        for (int i = 0; i < 20; i++) {
            int p = 20 + i;
            Checks.due("38: change " + i, 1, () -> x.hire(p));
        }
        Checks.due("37: a 21st", 0, () -> x.hotel(9, 9));
        Checks.due("38: a 21st", 0, () -> x.hire(9));
        Checks.due("39: a 21st", 0, () -> x.wakes(0, 9));
        Checks.badArgument("37: wrong ones are refused", () -> x.hotel(99, 9));
        Checks.badArgument("38: wrong ones are refused", () -> x.hire(100));
        Checks.noElement("39: wrong ones are refused", () -> x.wakes(9, 9));
        Checks.due("37: G stays", 4, () -> x.told(2));
        Checks.due("38: P stays", 39, () -> x.told(4));
        Checks.due("39: U stays", 6, () -> x.guest(0, 0));
        Checks.due("40: one is undone", 19, x::undo);
        Checks.due("40: P", 38, () -> x.told(4));
        Checks.due("37: one more", 1, () -> x.hotel(9, 8));
        Checks.due("37: G", 9, () -> x.told(2));
        for (int i = 19; i >= 0; i--) {
            Checks.due("40: undo", i, x::undo);
        }
        Checks.due("40: none is left", -1, x::undo);
        Checks.due("40: P", 1, () -> x.told(4));
        Checks.due("40: G", 4, () -> x.told(2));
    }

    private static void promise40() {
        PoolTowels x = with(POOL);
        x.hotel(5, 6);
        x.wakes(1, 3);
        x.hire(9);
        x.wakes(1, 2);
        x.day(7);
        Checks.due("40: of 4", 3, x::undo);
        Checks.due("40: U", 3, () -> x.guest(1, 0));
        Checks.due("40: P is as it was told", 9, () -> x.told(4));
        Checks.due("40: of 3", 2, x::undo);
        Checks.due("40: P", 1, () -> x.told(4));
        Checks.due("40: U stays", 3, () -> x.guest(1, 0));
        Checks.due("40: of 2", 1, x::undo);
        Checks.due("40: U", 7, () -> x.guest(1, 0));
        Checks.due("40: L stays", 6, () -> x.told(3));
        Checks.due("40: he comes", 7, () -> x.did(1, 0));
        Checks.due("40: of 1", 0, x::undo);
        Checks.due("40: G", 4, () -> x.told(2));
        Checks.due("40: L", 2, () -> x.told(3));
        Checks.due("40: none", -1, x::undo);
        Checks.due("40: the DAY is none of them", 7, () -> x.told(5));
    }

    private static void promise41And42() {
        PoolTowels x = with(POOL);
        Checks.due("42: none", -1, x::restore);
        Checks.due("41: the first", 1, x::image);
        x.day(4);
        x.wakes(0, 2);
        Checks.due("41: the second", 2, x::image);
        x.day(5);
        x.hotel(1, 1);
        x.hire(8);
        Checks.due("41: the third", 3, x::image);
        Checks.due("41: no more", -1, x::image);
        x.wakes(0, 11);
        x.day(6);
        Checks.due("42: the third is gone", 2, x::restore);
        Checks.due("42: U", 2, () -> x.guest(0, 0));
        Checks.due("42: DAY", 5, () -> x.told(5));
        Checks.due("42: G", 1, () -> x.told(2));
        Checks.due("42: P", 8, () -> x.told(4));
        Checks.due("42: changes", 3, () -> x.count(2));
        Checks.due("42: the second is gone", 1, x::restore);
        Checks.due("42: DAY", 4, () -> x.told(5));
        Checks.due("42: G", 4, () -> x.told(2));
        Checks.due("42: L", 2, () -> x.told(3));
        Checks.due("42: P", 1, () -> x.told(4));
        Checks.due("42: U", 2, () -> x.did(0, 0));
        Checks.due("42: changes", 1, () -> x.count(2));
        Checks.due("42: the first is gone", 0, x::restore);
        Checks.due("42: U", 6, () -> x.did(0, 0));
        Checks.due("42: DAY", 0, () -> x.told(5));
        Checks.due("42: none", -1, x::restore);
    }

    private static void imagesKeepChanges() {
        PoolTowels x = with(POOL);
        x.hire(5);
        x.hire(6);
        x.image();
        x.undo();
        x.undo();
        x.hotel(7, 7);
        Feeding.habit(x, 0, "3");
        Feeding.book(x, "0 0 1;");
        Checks.due("42: restore", 0, x::restore);
        Checks.due("42: P", 6, () -> x.told(4));
        Checks.due("42: G", 4, () -> x.told(2));
        Checks.due("42: HABITS are no part of it", 3, () -> x.would(0, 0, 0, 0, 0, 0, 0));
        Checks.due("42: nor the BOOK", 1, () -> x.told(6));
        Checks.due("42: both can be undone again", 1, x::undo);
        Checks.due("42: P", 5, () -> x.told(4));
        Checks.due("42: both", 0, x::undo);
        Checks.due("42: P", 1, () -> x.told(4));
    }

    private static void imagesKeepTwentyChanges() {
        PoolTowels x = with(POOL);
        for (int i = 0; i < 20; i++) {
            x.wakes(i % 3, i);
        }
        x.image();
        for (int i = 0; i < 20; i++) {
            x.undo();
        }
        for (int i = 0; i < 20; i++) {
            x.hire(i);
        }
        Checks.due("42: restore", 0, x::restore);
        Checks.due("42: no more changes", 0, () -> x.hire(50));
        for (int i = 19; i >= 3; i--) {
            int at = i;
            Checks.due("42: undo", at, x::undo);
            Checks.due("42: U", at - 3, () -> x.guest(at % 3, 0));
        }
    }

    private static void promise43() {
        PoolTowels x = with("guest 0 1 2 0;".repeat(5));
        Checks.due("43: none", 0, () -> x.status(0) + x.status(1) + x.status(2));
        Checks.noElement("43: GUEST 5", () -> x.did(5, 0));
        x.image();
        Checks.badArgument("43: told", () -> x.told(9));
        Checks.badArgument("43: told", () -> x.told(9));
        Checks.badState("43: still", () -> x.still(2, 0));
        Checks.badState("43: still", () -> x.still(2, 0));
        Checks.badState("43: still", () -> x.still(2, 0));
        x.restore();
        x.undo();
        Checks.due("43: NoSuchElementException", 1, () -> x.status(0));
        Checks.due("43: IllegalArgumentException", 2, () -> x.status(1));
        Checks.due("43: IllegalStateException", 3, () -> x.status(2));
        Checks.due("43: others", -1, () -> x.status(3));
        Checks.due("43: others", -1, () -> x.status(-1));
        Checks.due("43: asking is no refusal", 2, () -> x.status(1));
        Feeding.pool(x, "chair 1 1;");
        Checks.due("43: a POOL keeps them", 3, () -> x.status(2));
        Feeding.pool(x, "chair");
        Checks.due("43: a FAULT is no refusal", 2, () -> x.status(1));
    }

    private static void promise44() {
        PoolTowels x = with(POOL);
        x.image();
        x.hire(2);
        x.hire(3);
        x.feed(1, 2, 3, 4, 5);
        Checks.due("44: IMAGES", 1, () -> x.count(0));
        Checks.due("44: bytes", 20, () -> x.count(1));
        Checks.due("44: changes", 2, () -> x.count(2));
        Checks.due("44: others", -1, () -> x.count(3));
        Checks.due("44: others", -1, () -> x.count(-1));
        x.restore();
        Checks.due("44: IMAGES", 0, () -> x.count(0));
        Checks.due("44: the TAPE is no part of it", 20, () -> x.count(1));
        Checks.due("44: changes", 0, () -> x.count(2));
    }
}
