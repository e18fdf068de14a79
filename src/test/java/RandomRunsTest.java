import java.lang.reflect.InvocationTargetException;
import java.lang.reflect.Method;
import java.nio.charset.StandardCharsets;
import java.util.ArrayList;
import java.util.HashMap;
import java.util.List;
import java.util.Map;
import java.util.Random;

/** Runs of calls drawn by fixed seeds, each answered by PoolTowels and by the Oracle. */
public final class RandomRunsTest {
    private static final Map<String, Method> REAL = methods(PoolTowels.class);
    private static final Map<String, Method> MODEL = methods(Oracle.class);
    private static final String[] NAMES = {"mine", "first", "last", "got", "lain", "off", "day", "wish", "wake",
        "chairs", "guests"};

    private final Random random;
    private final PoolTowels real = new PoolTowels();
    private final Oracle model = new Oracle();
    private final List<String> told = new ArrayList<>();
    private final boolean wide;
    private int calls;

    private RandomRunsTest(long seed, boolean wide) {
        random = new Random(seed);
        this.wide = wide;
    }

    private static Map<String, Method> methods(Class<?> type) {
        Map<String, Method> all = new HashMap<>();
        for (Method m : type.getDeclaredMethods()) {
            boolean ints = m.getReturnType() == int.class;
            for (Class<?> t : m.getParameterTypes()) {
                ints &= t == int.class;
            }
            if (ints && !m.getName().startsWith("lambda")) {
                all.put(m.getName() + "/" + m.getParameterCount(), m);
            }
        }
        return all;
    }

    private static String answer(Object x, Method m, Object[] args) {
        try {
            return m.invoke(x, args).toString();
        } catch (InvocationTargetException e) {
            return "throws." + e.getCause().getClass().getSimpleName();
        } catch (IllegalAccessException e) {
            throw new IllegalStateException(e);
        }
    }

    private String call(String name, int... numbers) {
        calls++;
        Object[] args = new Object[numbers.length];
        StringBuilder row = new StringBuilder(name).append('(');
        for (int i = 0; i < args.length; i++) {
            args[i] = numbers[i];
            row.append(i == 0 ? "" : ", ").append(numbers[i]);
        }
        row.append(')');
        String key = name + "/" + args.length;
        String due = answer(model, MODEL.get(key), args);
        String got = answer(real, REAL.get(key), args);
        told.add(row + " -> " + got);
        if (!due.equals(got)) {
            throw new IllegalStateException(row + " answered " + got + ", due is " + due);
        }
        return got;
    }

    private int upTo(int most) {
        return random.nextInt(most + 1);
    }

    private boolean chance(int of) {
        return random.nextInt(of) == 0;
    }

    /** Mostly a number from least to most, now and then one a little or as far as can be beyond. */
    private int near(int least, int most) {
        if (chance(25)) {
            if (chance(5)) {
                return chance(2) ? Integer.MIN_VALUE + upTo(1) : Integer.MAX_VALUE - upTo(1);
            }
            return chance(2) ? least - 1 - upTo(2) : most + 1 + upTo(2);
        }
        return least + upTo(most - least);
    }

    private String blank() {
        return chance(12) ? "  " : chance(4) ? "" : " ";
    }

    private String poolText() {
        int chairs = wide ? 4 + upTo(4) : upTo(4);
        int guests = wide ? 5 + upTo(3) : upTo(5);
        List<String> clauses = new ArrayList<>();
        for (int i = 0; i < chairs; i++) {
            clauses.add("chair" + blank() + upTo(9) + " " + upTo(9));
        }
        for (int i = 0; i < guests; i++) {
            int f = chance(3) ? upTo(22) : 4 + upTo(12);
            int t = f + 1 + upTo(22 - f);
            int u = chance(3) ? upTo(23) : Math.max(0, f - upTo(6));
            clauses.add("guest" + blank() + u + " " + f + " " + t + " " + upTo(9));
        }
        if (!chance(4)) {
            clauses.add("goes " + (chance(2) ? upTo(4) : upTo(23)));
        }
        if (!chance(3)) {
            clauses.add("off " + (chance(2) ? 1 + upTo(4) : 1 + upTo(22)));
        }
        if (chance(2)) {
            clauses.add("hire " + (chance(2) ? upTo(9) : upTo(99)));
        }
        java.util.Collections.shuffle(clauses, random);
        StringBuilder text = new StringBuilder();
        for (String clause : clauses) {
            text.append(blank()).append(clause).append(chance(5) ? " ;" : ";");
        }
        return text.toString();
    }

    private String sum(int size) {
        StringBuilder s = new StringBuilder(product(size));
        while (chance(3)) {
            s.append(blank()).append(chance(2) ? '+' : '-').append(blank()).append(product(size - 1));
        }
        return s.toString();
    }

    private String product(int size) {
        StringBuilder s = new StringBuilder(unit(size));
        while (chance(4)) {
            s.append(blank()).append("*/%".charAt(upTo(2))).append(blank()).append(unit(size - 1));
        }
        return s.toString();
    }

    private String unit(int size) {
        if (size <= 0 || chance(3)) {
            return chance(2) ? Integer.toString(chance(3) ? upTo(99) : upTo(9)) : NAMES[chance(9) ? 6 : upTo(10) % 11];
        }
        switch (upTo(3)) {
            case 0:
                return "(" + blank() + sum(size - 1) + blank() + ")";
            case 1:
                return (chance(2) ? "least" : "most") + blank() + "[" + sum(size - 1) + "," + sum(size - 1) + "]";
            case 2:
                return "if " + sum(size - 2) + blank() + "<>=".charAt(upTo(2)) + blank() + sum(size - 2)
                    + " then " + sum(size - 1) + " else " + sum(size - 1);
            default:
                return NAMES[upTo(10)];
        }
    }

    private String likelyHabit() {
        String[] some = {"mine - 1", "if got = 0 then mine - 2 else mine + 1", "first - 1", "last", "wake - off",
            "if got=0 then first-1 else if lain<3 then mine-1 else wake", "most[mine,first]-got+off", "wish - 3",
            "(mine*7+3)%24", "if mine < 3 then wake else mine - 1", "day % 5 + 3", "last - 1 + got * 2",
            "if off = 1 then wish else mine - 1", "(mine * 5 + first + lain) % 20", "least[wake, last - guests]"};
        return some[random.nextInt(some.length)];
    }

    private String habitText() {
        if (chance(2)) {
            return likelyHabit();
        }
        for (int i = 0; i < 50; i++) {
            String s = sum(1 + upTo(5));
            if (s.length() <= 150) {
                return s;
            }
        }
        return "wake";
    }

    private String bookText() {
        StringBuilder s = new StringBuilder();
        int n = chance(8) ? upTo(14) : upTo(6);
        int guests = model.guests.size();
        for (int i = 0; i < n && s.length() < 135; i++) {
            int d = chance(2) ? upTo(4) : upTo(60);
            int g = guests == 0 ? 0 : chance(30) ? guests : random.nextInt(guests);
            int h = g < guests && !chance(6) ? model.past().get(d).came[g] : upTo(23);
            s.append(blank()).append(d).append(' ').append(g).append(' ').append(h).append(";");
        }
        return s.toString();
    }

    private byte[] spoiled(String text, int most) {
        StringBuilder s = new StringBuilder(text);
        if (chance(3)) {
            String odd = " ;,[]()+-*/%<>=0123456789abcxyzAZ\u0000\u00ff~{`:";
            for (int i = upTo(2); i >= 0; i--) {
                int at = s.length() == 0 ? 0 : random.nextInt(s.length());
                switch (upTo(4)) {
                    case 0:
                        s.insert(at, odd.charAt(random.nextInt(odd.length())));
                        break;
                    case 1:
                        s.setLength(at);
                        break;
                    case 2:
                        s.append(text);
                        break;
                    default:
                        if (s.length() > 0) {
                            if (chance(2)) {
                                s.deleteCharAt(at);
                            } else {
                                s.setCharAt(at, odd.charAt(random.nextInt(odd.length())));
                            }
                        }
                        break;
                }
            }
        }
        if (chance(6)) {
            s.append("   ");
        }
        if (s.length() > most) {
            s.setLength(most);
        }
        return s.toString().getBytes(StandardCharsets.ISO_8859_1);
    }

    private void feed(byte[] text) {
        for (int start = 0; start < text.length; start += 20) {
            call("feed", Feeding.piece(text, start));
        }
    }

    private void tellPool() {
        byte[] text = spoiled(poolText(), 600);
        feed(text);
        call("pool", chance(40) ? text.length + 30 : text.length);
        call("fault");
    }

    private void tellHabit() {
        byte[] text = spoiled(habitText(), 150);
        feed(text);
        call("habit", someGuest(), chance(40) ? text.length + 30 : text.length);
        call("fault");
    }

    private void tellBook() {
        byte[] text = spoiled(bookText(), 150);
        feed(text);
        call("book", chance(40) ? 151 : text.length);
        call("fault");
    }

    private int someGuest() {
        return near(0, Math.max(0, model.guests.size() - 1));
    }

    private int someChair() {
        return near(0, Math.max(0, model.chairs.size() - 1));
    }

    private void askDay() {
        for (int i = 0; i < 4; i++) {
            call("did", someGuest(), near(0, 7));
            call("chair", someChair(), near(0, 4));
            call("towel", someChair(), near(0, 23));
            call("lies", someChair(), near(0, 23));
            call("waits", near(0, 23));
            call("sums", near(0, 5));
        }
        call("early", near(0, 23));
        call("guest", someGuest(), near(0, 3));
        call("told", near(0, 6));
        call("worth", someGuest(), someChair(), near(0, 23));
    }

    private void askDays() {
        call("round", near(0, 1));
        call("round", 1);
        call("out", someGuest());
        call("had", someGuest(), near(1, 200));
        call("right");
        if (chance(3)) {
            call("fits", someGuest());
        }
    }

    private void askChairs() {
        if (wide && !chance(20)) {
            return;
        }
        call("given");
        call("gets", someGuest());
        call("gets", someGuest());
        call("waste");
        call("more", near(0, 9), near(0, 9));
        call("want", near(0, chance(2) ? 99 : 999));
        call("just", near(0, 1));
        call("turnsOf", near(1, 99));
    }

    private void askLots() {
        int seed = chance(3) ? random.nextInt() : upTo(99);
        call("lot", seed, near(0, 2));
        call("lucky", someGuest(), chance(9) ? Integer.MAX_VALUE - 3 : seed, near(1, 40));
        call("summer", seed, near(1, 60), near(0, 3));
        call("off", near(0, 1));
        int guests = model.guests.size();
        int most = (int) Math.pow(10, guests);
        call("net", someGuest(), chance(12) ? most + upTo(9) : chance(30) ? -1 : random.nextInt(most));
        call("would", someGuest(), near(0, 23), near(0, 23), near(0, 23), near(0, 1), near(0, 23), near(0, 999));
        if (guests > 4 || chance(guests == 4 ? 30 : 6)) {
            int n = guests == 4 && !chance(3) ? near(2, 5) : near(2, 8);
            call("still", n, 0);
            call("still", n, near(0, 1));
        }
    }

    private void change() {
        switch (upTo(6)) {
            case 0:
                call("hotel", near(0, chance(2) ? 4 : 23), near(1, chance(2) ? 4 : 23));
                break;
            case 1:
                call("hire", near(0, 99));
                break;
            case 2:
                call("wakes", someGuest(), near(0, 23));
                break;
            case 3:
                call("undo");
                break;
            case 4:
                call("image");
                break;
            case 5:
                call("restore");
                break;
            default:
                call("day", chance(3) ? near(0, 199) : near(0, 9));
                break;
        }
        call("count", near(0, 2));
        call("status", near(0, 2));
    }

    private void step() {
        int kind = upTo(19);
        if (kind < 2) {
            tellPool();
        } else if (kind < 6) {
            tellHabit();
        } else if (kind < 7) {
            tellBook();
        } else if (kind < 9) {
            askDay();
        } else if (kind < 11) {
            askDays();
        } else if (kind < 12) {
            askChairs();
        } else if (kind < 14) {
            askLots();
        } else {
            change();
        }
    }

    private boolean go(long seed) {
        try {
            while (calls < 440) {
                step();
            }
            return true;
        } catch (IllegalStateException e) {
            System.out.println("seed " + seed + (wide ? " (wide)" : "") + ", call " + calls + ": " + e.getMessage());
            return false;
        }
    }

    public static void main(String[] args) {
        int wrong = 0;
        int runs = args.length > 0 ? Integer.parseInt(args[0]) : 700;
        long from = args.length > 1 ? Long.parseLong(args[1]) : 0;
        for (long seed = from; seed < from + runs && wrong < 10; seed++) {
            wrong += new RandomRunsTest(seed, false).go(seed) ? 0 : 1;
            if (seed % 4 == 0) {
                wrong += new RandomRunsTest(seed, true).go(seed) ? 0 : 1;
            }
        }
        System.out.println(wrong == 0 ? "all drawn runs are as the oracle has them" : wrong + " runs are not");
        if (wrong != 0) {
            System.exit(1);
        }
    }
}
