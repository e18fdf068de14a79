/** Promises 1 to 6: a new object, the TAPE, the three texts and their FAULTS. */
public final class TextsTest {
    private static final String TWO_GUESTS = "chair 5 5;guest 10 12 20 1;guest 11 12 20 1;";

    private TextsTest() {
    }

    public static void main(String[] args) {
        promise1();
        promise2();
        promise3();
        promise3Numbers();
        promise3TooMany();
        promise3Keeps();
        promise4();
        promise4Depth();
        promise4Values();
        promise5();
        promise6();
        Checks.end();
    }

    private static PoolTowels with(String pool) {
        PoolTowels x = new PoolTowels();
        Feeding.pool(x, pool);
        return x;
    }

    private static void promise1() {
        PoolTowels x = new PoolTowels();
        int[] due = {0, 0, 0, 2, 0, 0, 0};
        for (int what = 0; what < due.length; what++) {
            int w = what;
            Checks.due("1: told(" + w + ")", due[w], () -> x.told(w));
        }
        Checks.due("1: fault()", -1, x::fault);
        Checks.due("1: undo()", -1, x::undo);
        Checks.due("1: restore()", -1, x::restore);
        for (int what = 0; what < 3; what++) {
            int w = what;
            Checks.due("1: count", 0, () -> x.count(w));
            Checks.due("1: status", 0, () -> x.status(w));
        }
        Checks.due("1: another object is its own", 1, () -> {
            PoolTowels y = new PoolTowels();
            y.hire(5);
            return x.told(4) == 0 && y.told(4) == 5 ? 1 : 0;
        });
    }

    private static void promise2() {
        PoolTowels x = new PoolTowels();
        for (int i = 1; i <= 30; i++) {
            Checks.due("2: feed " + i, 20 * i, () -> x.feed(0x20202020, 0, 0, 0, 0));
        }
        Checks.due("2: a 31st", -1, () -> x.feed(0x20202020, 0, 0, 0, 0));
        Checks.due("2: did nothing", 600, () -> x.count(1));
        Checks.due("2: blanks alone", 0, () -> x.pool(4));
        Checks.due("2: the TAPE is empty", 0, () -> x.count(1));
        // "goes 23;off 5;hire 9" and ";": each number's highest byte comes first
        x.feed(0x676f6573, 0x2032333b, 0x6f666620, 0x353b6869, 0x72652039);
        Checks.due("2: one more", 40, () -> x.feed(0x3b000000, -1, -1, -1, -1));
        Checks.due("2: pool(21)", 0, () -> x.pool(21));
        Checks.due("2: G", 23, () -> x.told(2));
        Checks.due("2: L", 5, () -> x.told(3));
        Checks.due("2: P", 9, () -> x.told(4));
        x.feed(0xff202020, 0, 0, 0, 0);
        Checks.due("2: a byte above 127 can't stand", -9, () -> x.pool(1));
        Checks.due("2: its place", 0, x::fault);
    }

    private static void poolFault(String text, int answer, int place) {
        PoolTowels x = new PoolTowels();
        Checks.due("3: pool " + text, answer, () -> Feeding.pool(x, text));
        Checks.due("3: fault " + text, place, x::fault);
        Checks.due("3: the TAPE is empty behind " + text, 0, () -> x.count(1));
    }

    private static void promise3() {
        poolFault("", 0, -1);
        poolFault("    ", 0, -1);
        poolFault("guest 1 2 3 4;", 1, -1);
        poolFault("  guest1 2 3 4  ;  chair 0 9;  ", 1, -1);
        poolFault("chair 1 1;;", -9, 10);
        poolFault(";", -9, 0);
        poolFault("Chair 1 1;", -9, 0);
        poolFault("chairs 1 1;", -9, 0);
        poolFault("  chai 1 1;", -9, 2);
        poolFault("chairX1 1;", -9, 5);
        poolFault("chair", -9, 5);
        poolFault("chair  ", -9, 7);
        poolFault("chair 1", -9, 7);
        poolFault("chair 1;", -9, 7);
        poolFault("chair 1 1", -9, 9);
        poolFault("chair 1 1   ", -9, 12);
        poolFault("chair 1 1 1;", -9, 10);
        poolFault("chair 1 1 chair 1 1;", -9, 10);
        poolFault("chair -1 1;", -9, 6);
        poolFault("chair 1a 1;", -9, 7);
        poolFault("5;", -9, 0);
        poolFault("chair 1 1; x", -9, 11);
        poolFault("chair 1 1,", -9, 9);
        poolFault("chair\t1 1;", -9, 5);
        poolFault("guest 1 2 3;", -9, 11);
        PoolTowels x = new PoolTowels();
        Checks.badArgument("3: pool(1) of an empty TAPE", () -> x.pool(1));
        Feeding.feed(x, "goes 4;off 3;".getBytes());
        Checks.badArgument("3: pool(21) of twenty", () -> x.pool(21));
        Checks.badArgument("3: pool(-1)", () -> x.pool(-1));
        Checks.due("3: the TAPE stays", 20, () -> x.count(1));
        Checks.due("3: only the first n", 0, () -> x.pool(7));
        Checks.due("3: G is told", 4, () -> x.told(2));
        Checks.due("3: L is not", 2, () -> x.told(3));
        Checks.due("3: the TAPE is empty", 0, () -> x.count(1));
    }

    private static void promise3Numbers() {
        poolFault("chair 0 9;", 0, -1);
        poolFault("chair 00009 0;", 0, -1);
        poolFault("chair 10 0;", -8, 6);
        poolFault("chair 0 10;", -8, 8);
        poolFault("chair 99999999999999999999 0;", -8, 6);
        poolFault("chair 4294967296 0;", -8, 6);
        poolFault("guest 23 22 23 9;", 1, -1);
        poolFault("guest 0 0 1 0;", 1, -1);
        poolFault("guest 24 0 1 0;", -8, 6);
        poolFault("guest 0 23 23 0;", -8, 8);
        poolFault("guest 0 5 5 0;", -8, 10);
        poolFault("guest 0 5 4 0;", -8, 10);
        poolFault("guest 0 5 24 0;", -8, 10);
        poolFault("guest 0 5 6 10;", -8, 12);
        poolFault("goes 23;", 0, -1);
        poolFault("goes 24;", -8, 5);
        poolFault("off 1;off 23;", 0, -1);
        poolFault("off 0;", -8, 4);
        poolFault("off 24;", -8, 4);
        poolFault("hire 99;", 0, -1);
        poolFault("hire 100;", -8, 5);
        // the first FAULT from the left counts, whatever its number
        poolFault("chair 10 x;", -8, 6);
        poolFault("chair x 10;", -9, 6);
        PoolTowels x = with("goes 3;off 4;hire 5;goes 6;off 7;hire 8;");
        Checks.due("3: the last G counts", 6, () -> x.told(2));
        Checks.due("3: the last L counts", 7, () -> x.told(3));
        Checks.due("3: the last P counts", 8, () -> x.told(4));
        Feeding.pool(x, "chair 1 1;");
        Checks.due("3: G without", 0, () -> x.told(2));
        Checks.due("3: L without", 2, () -> x.told(3));
        Checks.due("3: P without", 0, () -> x.told(4));
    }

    private static void promise3TooMany() {
        String chairs = "chair 1 1;".repeat(8);
        String guests = "guest 0 5 9 1;".repeat(8);
        poolFault(chairs + guests, 8, -1);
        poolFault(chairs + "chair 1 1;", -7, 80);
        poolFault(chairs + " chair", -7, 81);
        poolFault(chairs + "chairs", -9, 80);
        poolFault(guests + "guest 0 5 9 1;", -7, 112);
        poolFault(guests + "guest x", -7, 112);
        String sixty = "off 2;".repeat(60);
        poolFault(sixty, 0, -1);
        poolFault(sixty + "   ", 0, -1);
        poolFault(sixty + "off 2;", -7, 360);
        poolFault(sixty + "off 0;", -7, 360);
        poolFault(sixty + "of 2;", -9, 360);
        poolFault(sixty + "goes 1;", -7, 360);
        poolFault("hire 1;".repeat(59) + "hire 1", -9, 419);
        poolFault(" ".repeat(600), 0, -1);
        poolFault("goes 4" + " ".repeat(593) + ";", 0, -1);
    }

    private static void promise3Keeps() {
        PoolTowels x = with(TWO_GUESTS);
        Feeding.habit(x, 0, "mine - 1");
        Feeding.book(x, "0 0 10;1 0 9;");
        x.day(3);
        x.hire(7);
        x.image();
        Checks.due("3: a FAULT", -8, () -> Feeding.pool(x, "hire 5;goes 99;"));
        Checks.due("3: GUESTS stay", 2, () -> x.told(1));
        Checks.due("3: the hire stays", 7, () -> x.told(4));
        Checks.due("3: the DAY stays", 3, () -> x.told(5));
        Checks.due("3: the BOOK stays", 2, () -> x.told(6));
        Checks.due("3: HABITS stay", 7, () -> x.did(0, 0));
        Checks.due("3: IMAGES stay", 1, () -> x.count(0));
        Checks.due("3: changes stay", 1, () -> x.count(2));
        Checks.due("3: another POOL", 2, () -> Feeding.pool(x, TWO_GUESTS));
        Checks.due("3: DAY 0", 0, () -> x.told(5));
        Checks.due("3: no BOOK", 0, () -> x.told(6));
        Checks.due("3: no IMAGES", 0, () -> x.count(0));
        Checks.due("3: nothing to undo", 0, () -> x.count(2));
        Checks.due("3: undo", -1, x::undo);
        Checks.due("3: restore", -1, x::restore);
        x.day(5);
        Checks.due("3: no HABITS", 10, () -> x.did(0, 0));
        Checks.due("3: no hire", 0, () -> x.told(4));
    }

    private static void habitFault(String text, int answer, int place) {
        PoolTowels x = with(TWO_GUESTS);
        Checks.due("4: habit " + text, answer, () -> Feeding.habit(x, 1, text));
        Checks.due("4: fault " + text, place, x::fault);
    }

    private static void promise4() {
        habitFault("", -9, 0);
        habitFault("   ", -9, 3);
        habitFault(" 1 ", 1, -1);
        habitFault("99", 1, -1);
        habitFault("100", -8, 0);
        habitFault("1 + 100", -8, 4);
        habitFault("1 +", -9, 3);
        habitFault("1 + ", -9, 4);
        habitFault("- 1", -9, 0);
        habitFault("1 2", -9, 2);
        habitFault("mine mine", -9, 5);
        habitFault("mines", -9, 0);
        habitFault("2mine", -9, 1);
        habitFault("Mine", -9, 0);
        habitFault("then", -9, 0);
        habitFault("1 < 2", -9, 2);
        habitFault("1 + * 2", -9, 4);
        habitFault("1)", -9, 1);
        habitFault("(1", -9, 2);
        habitFault("()", -9, 1);
        habitFault("(1]", -9, 2);
        habitFault("least 1,2]", -9, 6);
        habitFault("least[1 2]", -9, 8);
        habitFault("least[1,2", -9, 9);
        habitFault("least[1,2)", -9, 9);
        habitFault("most[1,2,3]", -9, 8);
        habitFault("most", -9, 4);
        habitFault("if", -9, 2);
        habitFault("if 1 then", -9, 5);
        habitFault("if 1 < 2", -9, 8);
        habitFault("if 1 < 2 < 3 then 1 else 2", -9, 9);
        habitFault("if 1 < 2 thenx 1 else 2", -9, 9);
        habitFault("if 1 < 2 else 1 else 2", -9, 9);
        habitFault("if 1 < 2 then 1", -9, 15);
        habitFault("if 1 < 2 then 1 elsee 2", -9, 16);
        habitFault("if 1 < 2 then 1 else", -9, 20);
        habitFault("if1<2then3else4", 1, -1);
        habitFault("if(1)=(2)then(3)else(4)", 1, -1);
        habitFault("1;", -9, 1);
        PoolTowels x = with(TWO_GUESTS);
        Feeding.feed(x, "mine - 1            ".repeat(8).getBytes());
        Checks.noElement("4: no such GUEST, ahead of n", () -> x.habit(2, 999));
        Checks.noElement("4: GUEST -1", () -> x.habit(-1, 4));
        Checks.badArgument("4: 151 bytes", () -> x.habit(0, 151));
        Checks.badArgument("4: n -1", () -> x.habit(0, -1));
        Checks.due("4: the TAPE stays", 160, () -> x.count(1));
        Checks.due("4: 150 bytes may be, but these can't", -9, () -> x.habit(0, 150));
        Checks.due("4: where", 20, x::fault);
        Checks.badArgument("4: n beyond the TAPE", () -> x.habit(0, 1));
        for (int i = 0; i < 60; i++) {
            int n = i % 24;
            int guest = i % 2;
            Checks.due("4: one after the other", 1, () -> Feeding.habit(x, guest, "0 + " + n));
            Checks.due("4: the latest counts", n, () -> x.would(guest, 0, 0, 0, 0, 0, 0));
        }
        habitFault("1" + "+1".repeat(74), 1, -1);
        habitFault("1" + "+1".repeat(74) + " ", 1, -1);
    }

    private static void promise4Depth() {
        habitFault("((((((1))))))", 1, -1);
        habitFault("(((((((1)))))))", -7, 6);
        habitFault("((((((least", -7, 6);
        habitFault("((((((leasts", -9, 6);
        habitFault("(((((( most[1,2]))))))", -7, 7);
        habitFault("((((((if 1=1 then 1 else 1))))))", -7, 6);
        habitFault("((((((1)))))) + ((((((1))))))", 1, -1);
        habitFault("least[least[least[least[least[least[1,2],2],2],2],2],2]", 1, -1);
        habitFault("least[(1),(((((1)))))]", 1, -1);
        habitFault("least[(1),((((((1))))))]", -7, 15);
        habitFault("if 1=1 then 1 else (((((1)))))", 1, -1);
        habitFault("if 1=1 then 1 else 1+(((((1)))))", 1, -1);
        habitFault("if 1=1 then 1 else 1+((((((1))))))", -7, 26);
        habitFault("(if 1=1 then 1 else 1)+((((((1))))))", 1, -1);
        habitFault("if ((((((1=1", -7, 8);
        habitFault("if 1=1 then ((((((1", -7, 17);
    }

    private static void value(String text, int due) {
        PoolTowels x = with(TWO_GUESTS);
        Checks.due("4: habit " + text, 1, () -> Feeding.habit(x, 1, text));
        Checks.due("4: value of " + text, due, () -> x.would(1, 9, 4, 17, 1, 6, 30));
    }

    private static void promise4Values() {
        value("mine", 9);
        value("first", 4);
        value("last", 17);
        value("got", 1);
        value("lain", 6);
        value("off", 0);
        value("day", 23);
        value("day - 20", 10);
        value("wish", 12);
        value("wake", 11);
        value("chairs", 1);
        value("guests", 2);
        value("2 + 3 * 4", 14);
        value("(2 + 3) * 4", 20);
        value("20 - 3 - 4", 13);
        value("20 / 3 / 2", 3);
        value("20 % 7 % 4", 2);
        value("17 / 3 * 2", 10);
        value("5 + (0 - 7) / 2", 2);
        value("5 + (0 - 7) % 2", 4);
        value("5 + 7 % (0 - 2)", 6);
        value("9 / 0 + 9 % 0 + 3", 3);
        value("least[7, 3]", 3);
        value("most[7, 3]", 7);
        value("least[most[1, 8], 6] + 1", 7);
        value("if 2 < 3 then 5 else 6", 5);
        value("if 3 < 3 then 5 else 6", 6);
        value("if 4 > 3 then 5 else 6", 5);
        value("if 3 > 3 then 5 else 6", 6);
        value("if 3 = 3 then 5 else 6", 5);
        value("if 2 = 3 then 5 else 6", 6);
        value("if 1 = 1 then 5 else 6 + 9", 5);
        value("if 1 = 2 then 5 else 6 + 9", 15);
        value("(if 1 = 1 then 5 else 6) + 9", 14);
        value("if 1 = 2 then 1 else if 2 = 2 then 3 else 4", 3);
        value("0 - 1", 0);
        value("24", 23);
        // 99 to the 5th wraps to 919,965,907, 60 to the 6th to -588,640,256
        value("99*99*99*99*99/99/99/99/99", 9);
        value("10 + 60*60*60*60*60*60/99/99/99/99", 4);
        value("64*64*64*64*64*2 / (0 - 1)", 0);
        value("7 + 64*64*64*64*64*2 % (0 - 1)", 7);
        value("if 64*64*64*64*64*2 < 0 then 5 else 6", 5);
    }

    private static void bookFault(String text, int answer, int place) {
        PoolTowels x = with(TWO_GUESTS);
        Checks.due("5: book " + text, answer, () -> Feeding.book(x, text));
        Checks.due("5: fault " + text, place, x::fault);
        Checks.due("5: lines", Math.max(0, answer), () -> x.told(6));
    }

    private static void promise5() {
        bookFault("", 0, -1);
        bookFault("  ", 0, -1);
        bookFault("0 0 0;", 1, -1);
        bookFault(" 60 1 23 ; 60 1 23;", 2, -1);
        bookFault("61 0 1;", -8, 0);
        bookFault("1 2 1;", -8, 2);
        bookFault("1 0 24;", -8, 4);
        bookFault("1 0;", -9, 3);
        bookFault("1 0 1", -9, 5);
        bookFault("1 0 1 ", -9, 6);
        bookFault("a", -9, 0);
        bookFault("1,0,1;", -9, 1);
        String twelve = "1 0 1;".repeat(12);
        bookFault(twelve, 12, -1);
        bookFault(twelve + " ", 12, -1);
        bookFault(twelve + "1 0 1;", -7, 72);
        bookFault(twelve + " 1", -7, 73);
        bookFault(twelve + "61", -8, 72);
        bookFault(twelve + ";", -9, 72);
        PoolTowels x = with(TWO_GUESTS);
        Checks.due("5: two lines", 2, () -> Feeding.book(x, "0 0 10;0 1 11;"));
        Checks.due("5: a FAULT", -8, () -> Feeding.book(x, "5 0 1;5 1 1;5 1 99;"));
        Checks.due("5: the BOOK stays", 2, () -> x.told(6));
        Checks.due("5: as it was", 2, x::right);
        Feeding.feed(x, "1 0 1;".repeat(40).getBytes());
        Checks.badArgument("5: 151 bytes", () -> x.book(151));
        Checks.badArgument("5: n -1", () -> x.book(-1));
        Checks.due("5: the TAPE stays", 240, () -> x.count(1));
        Checks.due("5: another one", 1, () -> x.book(6));
        Checks.badArgument("5: beyond the TAPE", () -> x.book(1));
        PoolTowels none = new PoolTowels();
        Checks.due("5: no GUEST to tell of", -8, () -> Feeding.book(none, "0 0 0;"));
        Checks.due("5: where", 2, none::fault);
    }

    private static void promise6() {
        PoolTowels x = with(TWO_GUESTS);
        Checks.due("6: none", -1, x::fault);
        Feeding.book(x, "1 0 x");
        Checks.due("6: of a BOOK", 4, x::fault);
        Checks.badArgument("6: a refused call", () -> x.pool(99));
        Checks.due("6: is no text", 4, x::fault);
        Feeding.habit(x, 0, "mine +");
        Checks.due("6: of a HABIT", 6, x::fault);
        Feeding.pool(x, "pool");
        Checks.due("6: of a POOL", 0, x::fault);
        Feeding.habit(x, 0, "mine");
        Checks.due("6: none again", -1, x::fault);
    }
}
