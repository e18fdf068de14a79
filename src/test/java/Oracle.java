import java.util.ArrayList;
import java.util.HashMap;
import java.util.List;
import java.util.Map;
import java.util.NoSuchElementException;

/** A slow second reading of the document, half hour by half hour, to hold PoolTowels against. */
final class Oracle {
    static final class Fault extends RuntimeException {
        private static final long serialVersionUID = 1L;
        final int kind;
        final int at;

        Fault(int kind, int at) {
            this.kind = kind;
            this.at = at;
        }
    }

    static final class Guest {
        int u, f, t, c;
    }

    record Line(int day, int guest, int half) {
    }

    record Token(char kind, String text, int at) {
    }

    interface Formula {
        int of(Map<String, Integer> known);
    }

    static final class Habit {
        Formula formula = known -> known.get("wake");
        boolean asksDay;
    }

    /** All that a DAY was. */
    static final class Log {
        int[] came, first, lay, got, net, took, offs, waited;
        int[][] towel, lies;
        int[] waits = new int[24];
        int[] taken;
        int last = 23;
    }

    static final class State {
        int g, l, p, day;
        int[] wakes;
        List<int[]> changes;
    }

    List<int[]> chairs = new ArrayList<>();
    List<Guest> guests = new ArrayList<>();
    List<Habit> habits = new ArrayList<>();
    List<Line> book = new ArrayList<>();
    List<int[]> changes = new ArrayList<>();
    List<State> images = new ArrayList<>();
    int g, l = 2, p, day;
    byte[] tape = new byte[0];
    int faultPlace = -1;
    int[] refused = new int[3];
    private List<Log> past;

    // ---------- texts ----------

    static List<Token> tokens(byte[] text) {
        List<Token> all = new ArrayList<>();
        int i = 0;
        while (i < text.length) {
            int b = text[i] & 255;
            if (b == ' ') {
                i++;
                continue;
            }
            int j = i + 1;
            char kind = 's';
            if (b >= '0' && b <= '9') {
                kind = 'n';
                while (j < text.length && text[j] >= '0' && text[j] <= '9') {
                    j++;
                }
            } else if (b >= 'a' && b <= 'z') {
                kind = 'w';
                while (j < text.length && text[j] >= 'a' && text[j] <= 'z') {
                    j++;
                }
            }
            StringBuilder s = new StringBuilder();
            for (int k = i; k < j; k++) {
                s.append((char) (text[k] & 255));
            }
            all.add(new Token(kind, s.toString(), i));
            i = j;
        }
        all.add(new Token('e', "", text.length));
        return all;
    }

    /** A walk over tokens. */
    static final class Walk {
        final List<Token> all;
        int i;

        Walk(byte[] text) {
            all = tokens(text);
        }

        Token see() {
            return all.get(i);
        }

        boolean ended() {
            return see().kind() == 'e';
        }

        boolean is(char kind, String text) {
            return see().kind() == kind && see().text().equals(text);
        }

        void need(char kind, String text) {
            if (!is(kind, text)) {
                throw new Fault(1, see().at());
            }
            i++;
        }

        int number(int least, int most) {
            Token t = see();
            if (t.kind() != 'n') {
                throw new Fault(1, t.at());
            }
            java.math.BigInteger v = new java.math.BigInteger(t.text());
            if (v.compareTo(java.math.BigInteger.valueOf(least)) < 0
                    || v.compareTo(java.math.BigInteger.valueOf(most)) > 0) {
                throw new Fault(2, t.at());
            }
            i++;
            return v.intValue();
        }
    }

    int poolText(byte[] text) {
        List<int[]> newChairs = new ArrayList<>();
        List<Guest> newGuests = new ArrayList<>();
        int newG = 0, newL = 2, newP = 0, clauses = 0;
        Walk w = new Walk(text);
        try {
            while (!w.ended()) {
                Token t = w.see();
                if (t.kind() != 'w' || !List.of("chair", "guest", "goes", "off", "hire").contains(t.text())) {
                    throw new Fault(1, t.at());
                }
                clauses++;
                if (clauses > 60 || t.text().equals("chair") && newChairs.size() == 8
                        || t.text().equals("guest") && newGuests.size() == 8) {
                    throw new Fault(3, t.at());
                }
                w.i++;
                switch (t.text()) {
                    case "chair" -> newChairs.add(new int[] {w.number(0, 9), w.number(0, 9)});
                    case "guest" -> {
                        Guest one = new Guest();
                        one.u = w.number(0, 23);
                        one.f = w.number(0, 22);
                        one.t = w.number(one.f + 1, 23);
                        one.c = w.number(0, 9);
                        newGuests.add(one);
                    }
                    case "goes" -> newG = w.number(0, 23);
                    case "off" -> newL = w.number(1, 23);
                    default -> newP = w.number(0, 99);
                }
                w.need('s', ";");
            }
        } catch (Fault f) {
            faultPlace = f.at;
            return f.kind - 10;
        }
        faultPlace = -1;
        chairs = newChairs;
        guests = newGuests;
        g = newG;
        l = newL;
        p = newP;
        day = 0;
        habits.clear();
        for (int i = 0; i < guests.size(); i++) {
            habits.add(new Habit());
        }
        book.clear();
        images.clear();
        changes.clear();
        past = null;
        return guests.size();
    }

    int habitText(int guest, byte[] text) {
        Walk w = new Walk(text);
        Habit h = new Habit();
        try {
            h.formula = sum(w, 0, h);
            if (!w.ended()) {
                throw new Fault(1, w.see().at());
            }
        } catch (Fault f) {
            faultPlace = f.at;
            return f.kind - 10;
        }
        faultPlace = -1;
        habits.set(guest, h);
        past = null;
        return 1;
    }

    private static Formula sum(Walk w, int open, Habit h) {
        Formula left = product(w, open, h);
        while (w.is('s', "+") || w.is('s', "-")) {
            boolean plus = w.is('s', "+");
            w.i++;
            Formula a = left;
            Formula b = product(w, open, h);
            left = plus ? k -> a.of(k) + b.of(k) : k -> a.of(k) - b.of(k);
        }
        return left;
    }

    private static Formula product(Walk w, int open, Habit h) {
        Formula left = unit(w, open, h);
        while (w.is('s', "*") || w.is('s', "/") || w.is('s', "%")) {
            String sign = w.see().text();
            w.i++;
            Formula a = left;
            Formula b = unit(w, open, h);
            left = switch (sign) {
                case "*" -> k -> a.of(k) * b.of(k);
                case "/" -> k -> b.of(k) == 0 ? 0 : a.of(k) / b.of(k);
                default -> k -> b.of(k) == 0 ? 0 : a.of(k) % b.of(k);
            };
        }
        return left;
    }

    private static Formula unit(Walk w, int open, Habit h) {
        Token t = w.see();
        if (t.kind() == 'n') {
            int n = w.number(0, 99);
            return k -> n;
        }
        if (t.kind() == 'w' && List.of("mine", "first", "last", "got", "lain", "off", "day", "wish", "wake",
                "chairs", "guests").contains(t.text())) {
            w.i++;
            h.asksDay |= t.text().equals("day");
            return k -> k.get(t.text());
        }
        boolean opens = w.is('s', "(") || w.is('w', "least") || w.is('w', "most") || w.is('w', "if");
        if (!opens) {
            throw new Fault(1, t.at());
        }
        if (open == 6) {
            throw new Fault(3, t.at());
        }
        w.i++;
        if (t.text().equals("(")) {
            Formula in = sum(w, open + 1, h);
            w.need('s', ")");
            return in;
        }
        if (t.text().equals("if")) {
            return choice(w, open + 1, h);
        }
        w.need('s', "[");
        Formula a = sum(w, open + 1, h);
        w.need('s', ",");
        Formula b = sum(w, open + 1, h);
        w.need('s', "]");
        return t.text().equals("least") ? k -> Math.min(a.of(k), b.of(k)) : k -> Math.max(a.of(k), b.of(k));
    }

    private static Formula choice(Walk w, int open, Habit h) {
        Formula a = sum(w, open, h);
        String sign = w.see().text();
        if (!w.is('s', "<") && !w.is('s', ">") && !w.is('s', "=")) {
            throw new Fault(1, w.see().at());
        }
        w.i++;
        Formula b = sum(w, open, h);
        w.need('w', "then");
        Formula yes = sum(w, open, h);
        w.need('w', "else");
        Formula no = sum(w, open, h);
        return k -> {
            int x = a.of(k);
            int y = b.of(k);
            boolean so = sign.equals("<") ? x < y : sign.equals(">") ? x > y : x == y;
            return so ? yes.of(k) : no.of(k);
        };
    }

    int bookText(byte[] text) {
        Walk w = new Walk(text);
        List<Line> fresh = new ArrayList<>();
        try {
            while (!w.ended()) {
                int at = w.see().at();
                int d = w.number(0, 60);
                if (fresh.size() == 12) {
                    throw new Fault(3, at);
                }
                int who = w.number(0, guests.size() - 1);
                int half = w.number(0, 23);
                w.need('s', ";");
                fresh.add(new Line(d, who, half));
            }
        } catch (Fault f) {
            faultPlace = f.at;
            return f.kind - 10;
        }
        faultPlace = -1;
        book = fresh;
        return book.size();
    }

    // ---------- days ----------

    int worthAt(int chair, int half) {
        return chairs.get(chair)[half < 12 ? 0 : 1];
    }

    int worthFrom(int guest, int chair, int half) {
        int sum = 0;
        for (int h = 0; h < guests.get(guest).t; h++) {
            if (h >= half && h >= guests.get(guest).f) {
                sum += worthAt(chair, h);
            }
        }
        return sum;
    }

    private final class Run {
        final int n = guests.size();
        final int m = chairs.size();
        final Log log = new Log();
        final int[] owner = new int[m];
        final int[] laid = new int[m];
        final int[] lastLain = new int[m];
        final int[] has = new int[n];
        final int[] began = new int[n];
        final List<Integer> order;

        Run(int[] came, List<Integer> order) {
            this.order = order;
            log.came = came.clone();
            log.first = new int[n];
            log.lay = new int[n];
            log.got = new int[n];
            log.net = new int[n];
            log.took = new int[n];
            log.offs = new int[n];
            log.waited = new int[n];
            log.towel = new int[m][24];
            log.lies = new int[m][24];
            log.taken = new int[m];
            java.util.Arrays.fill(owner, -1);
            java.util.Arrays.fill(has, -1);
            java.util.Arrays.fill(began, -1);
            java.util.Arrays.fill(log.first, -1);
        }

        boolean take(int who, int h) {
            int best = -1;
            for (int c = 0; c < m; c++) {
                if (owner[c] == -1 && (best == -1 || worthFrom(who, c, h) > worthFrom(who, best, h))) {
                    best = c;
                }
            }
            if (best == -1) {
                return false;
            }
            owner[best] = who;
            laid[best] = h;
            lastLain[best] = -1;
            has[who] = best;
            began[who] = -1;
            log.took[who]++;
            log.taken[best]++;
            if (log.first[who] == -1) {
                log.first[who] = best;
            }
            return true;
        }

        Log go(int limit) {
            for (int h = 0; h < 24; h++) {
                for (int who = 0; who < n; who++) {
                    if (guests.get(who).t == h) {
                        if (has[who] >= 0) {
                            owner[has[who]] = -1;
                            has[who] = -1;
                        }
                        began[who] = -1;
                    }
                }
                if (g != 0 && h != 0 && h % g == 0) {
                    for (int c = 0; c < m; c++) {
                        int since = lastLain[c] >= 0 ? lastLain[c] + 1 : laid[c];
                        if (owner[c] >= 0 && h - since >= limit) {
                            int who = owner[c];
                            owner[c] = -1;
                            has[who] = -1;
                            log.offs[who]++;
                            began[who] = Math.max(h, guests.get(who).f);
                        }
                    }
                }
                for (int who : order) {
                    if (log.came[who] == h && guests.get(who).t > h) {
                        if (take(who, h)) {
                            log.last = h;
                        } else {
                            began[who] = h;
                        }
                    }
                }
                for (int b = 0; b <= h; b++) {
                    for (int who : order) {
                        if (began[who] == b) {
                            take(who, h);
                        }
                    }
                }
                end(h);
            }
            for (int who = 0; who < n; who++) {
                Guest one = guests.get(who);
                log.net[who] = log.got[who] - one.c * Math.max(0, one.u - log.came[who]) - p * log.took[who];
            }
            return log;
        }

        void end(int h) {
            for (int who = 0; who < n; who++) {
                if (began[who] >= 0 && began[who] <= h) {
                    log.waits[h] |= 1 << who;
                    log.waited[who]++;
                }
            }
            for (int c = 0; c < m; c++) {
                log.towel[c][h] = owner[c];
                log.lies[c][h] = -1;
                if (owner[c] >= 0 && h >= guests.get(owner[c]).f) {
                    log.lies[c][h] = owner[c];
                    lastLain[c] = h;
                    log.lay[owner[c]]++;
                    log.got[owner[c]] += worthAt(c, h);
                }
            }
        }
    }

    List<Integer> numbers() {
        List<Integer> order = new ArrayList<>();
        for (int i = 0; i < guests.size(); i++) {
            order.add(i);
        }
        return order;
    }

    Log through(int[] came, List<Integer> order, int limit) {
        return new Run(came, order).go(limit);
    }

    int[] waking() {
        int[] came = new int[guests.size()];
        for (int i = 0; i < came.length; i++) {
            came[i] = guests.get(i).u;
        }
        return came;
    }

    int comes(Habit h, int guest, Map<String, Integer> known) {
        known.put("wish", guests.get(guest).f);
        known.put("wake", guests.get(guest).u);
        known.put("chairs", chairs.size());
        known.put("guests", guests.size());
        return Math.max(0, Math.min(23, h.formula.of(known)));
    }

    int[] next(Log was, List<Habit> by, int d) {
        int[] came = new int[guests.size()];
        int first = 99;
        for (int c : was.came) {
            first = Math.min(first, c);
        }
        for (int i = 0; i < came.length; i++) {
            Map<String, Integer> known = new HashMap<>();
            known.put("mine", was.came[i]);
            known.put("first", first);
            known.put("last", was.last);
            known.put("got", was.took[i] > 0 ? 1 : 0);
            known.put("lain", was.lay[i]);
            known.put("off", was.offs[i] > 0 ? 1 : 0);
            known.put("day", d);
            came[i] = comes(by.get(i), i, known);
        }
        return came;
    }

    List<Log> daysBy(List<Habit> by, int n) {
        List<Log> all = new ArrayList<>();
        for (int d = 0; d < n; d++) {
            int[] came = d == 0 ? waking() : next(all.get(d - 1), by, d);
            all.add(through(came, numbers(), l));
        }
        return all;
    }

    List<Log> past() {
        if (past == null) {
            past = daysBy(habits, 200);
        }
        return past;
    }

    Log today() {
        return past().get(day);
    }

    static int sum(int[] row) {
        int s = 0;
        for (int v : row) {
            s += v;
        }
        return s;
    }

    int idle(Log log) {
        int idle = 0;
        for (int c = 0; c < chairs.size(); c++) {
            idle += idleOf(log, c);
        }
        return idle;
    }

    static int idleOf(Log log, int c) {
        int idle = 0;
        for (int h = 0; h < 24; h++) {
            if (log.towel[c][h] >= 0 && log.lies[c][h] < 0) {
                idle++;
            }
        }
        return idle;
    }

    int lost(Log log) {
        int lost = 0;
        for (int i = 0; i < guests.size(); i++) {
            lost += Math.max(0, guests.get(i).u - log.came[i]);
        }
        return lost;
    }

    static int bits(int[] took) {
        int bits = 0;
        for (int i = 0; i < took.length; i++) {
            if (took[i] > 0) {
                bits |= 1 << i;
            }
        }
        return bits;
    }

    // ---------- calls ----------

    private void guestIs(int guest) {
        if (guest < 0 || guest >= guests.size()) {
            refused[0]++;
            throw new NoSuchElementException();
        }
    }

    private void chairIs(int chair) {
        if (chair < 0 || chair >= chairs.size()) {
            refused[0]++;
            throw new NoSuchElementException();
        }
    }

    private void within(int v, int least, int most) {
        if (v < least || v > most) {
            refused[1]++;
            throw new IllegalArgumentException();
        }
    }

    private byte[] cut(int n) {
        byte[] text = java.util.Arrays.copyOf(tape, n);
        tape = new byte[0];
        return text;
    }

    int feed(int a, int b, int c, int d, int e) {
        if (tape.length + 20 > 600) {
            return -1;
        }
        java.nio.ByteBuffer all = java.nio.ByteBuffer.allocate(tape.length + 20);
        all.put(tape).putInt(a).putInt(b).putInt(c).putInt(d).putInt(e);
        tape = all.array();
        return tape.length;
    }

    int pool(int n) {
        within(n, 0, tape.length);
        return poolText(cut(n));
    }

    int habit(int guest, int n) {
        guestIs(guest);
        within(n, 0, Math.min(150, tape.length));
        return habitText(guest, cut(n));
    }

    int book(int n) {
        within(n, 0, Math.min(150, tape.length));
        return bookText(cut(n));
    }

    int fault() {
        return faultPlace;
    }

    int told(int what) {
        within(what, 0, 6);
        return new int[] {chairs.size(), guests.size(), g, l, p, day, book.size()}[what];
    }

    int chair(int chair, int what) {
        chairIs(chair);
        within(what, 0, 4);
        if (what < 2) {
            return chairs.get(chair)[what];
        }
        int lain = 0;
        for (int h = 0; h < 24; h++) {
            lain += today().lies[chair][h] >= 0 ? 1 : 0;
        }
        return what == 2 ? lain : what == 3 ? idleOf(today(), chair) : today().taken[chair];
    }

    int guest(int guest, int what) {
        guestIs(guest);
        within(what, 0, 3);
        Guest one = guests.get(guest);
        return new int[] {one.u, one.f, one.t, one.c}[what];
    }

    int day(int d) {
        within(d, 0, 199);
        int was = day;
        day = d;
        return was;
    }

    int did(int guest, int what) {
        guestIs(guest);
        within(what, 0, 7);
        Log t = today();
        return new int[][] {t.came, t.first, t.lay, t.got, t.net, t.took, t.offs, t.waited}[what][guest];
    }

    int towel(int chair, int half) {
        chairIs(chair);
        within(half, 0, 23);
        return today().towel[chair][half];
    }

    int lies(int chair, int half) {
        chairIs(chair);
        within(half, 0, 23);
        return today().lies[chair][half];
    }

    int waits(int half) {
        within(half, 0, 23);
        return today().waits[half];
    }

    int sums(int what) {
        within(what, 0, 5);
        Log t = today();
        return switch (what) {
            case 0 -> sum(t.got);
            case 1 -> sum(t.net);
            case 2 -> idle(t);
            case 3 -> lost(t);
            case 4 -> Integer.bitCount(bits(t.took));
            default -> sum(t.offs);
        };
    }

    int worth(int guest, int chair, int half) {
        guestIs(guest);
        chairIs(chair);
        within(half, 0, 23);
        return worthFrom(guest, chair, half);
    }

    int would(int guest, int mine, int first, int last, int got, int lain, int d) {
        guestIs(guest);
        for (int v : new int[] {mine, first, last, lain}) {
            if (v < 0 || v > 23) {
                within(v, 0, 23);
            }
        }
        within(got, 0, 1);
        within(d, 0, 999);
        Map<String, Integer> known = new HashMap<>();
        known.put("mine", mine);
        known.put("first", first);
        known.put("last", last);
        known.put("got", got);
        known.put("lain", lain);
        known.put("off", 0);
        known.put("day", d);
        return comes(habits.get(guest), guest, known);
    }

    private static List<Integer> shape(Log log) {
        List<Integer> all = new ArrayList<>();
        for (int i = 0; i < log.came.length; i++) {
            all.addAll(List.of(log.came[i], log.took[i] > 0 ? 1 : 0, log.lay[i], log.offs[i] > 0 ? 1 : 0));
        }
        return all;
    }

    int round(int what) {
        within(what, 0, 1);
        for (Habit h : habits) {
            if (h.asksDay) {
                return -1;
            }
        }
        for (int j = 1; j < 200; j++) {
            for (int i = 0; i < j; i++) {
                if (shape(past().get(i)).equals(shape(past().get(j)))) {
                    return what == 0 ? i : j - i;
                }
            }
        }
        return -1;
    }

    int out(int guest) {
        guestIs(guest);
        for (int d = 1; d < 200; d++) {
            if (past().get(d).took[guest] == 0) {
                return d;
            }
        }
        return -1;
    }

    int had(int guest, int n) {
        guestIs(guest);
        within(n, 1, 200);
        int often = 0;
        for (int d = 0; d < n; d++) {
            often += past().get(d).took[guest] > 0 ? 1 : 0;
        }
        return often;
    }

    int still(int n, int what) {
        within(n, 2, 8);
        within(what, 0, 1);
        if (guests.size() > 4) {
            refused[2]++;
            throw new IllegalStateException();
        }
        Map<Integer, int[]> nets = new HashMap<>();
        List<int[]> mornings = new ArrayList<>();
        list(new int[guests.size()], 0, n, mornings);
        for (int[] m : mornings) {
            nets.put(digits(m), through(m, numbers(), l).net);
        }
        int many = 0;
        int first = -1;
        for (int[] m : mornings) {
            if (isStill(m, n, nets)) {
                many++;
                first = first == -1 ? digits(m) : first;
            }
        }
        return what == 0 ? many : first;
    }

    private static boolean isStill(int[] m, int n, Map<Integer, int[]> nets) {
        for (int i = 0; i < m.length; i++) {
            for (int h = 0; h < n; h++) {
                int[] other = m.clone();
                other[i] = h;
                if (nets.get(digits(other))[i] > nets.get(digits(m))[i]) {
                    return false;
                }
            }
        }
        return true;
    }

    private static void list(int[] m, int at, int n, List<int[]> into) {
        if (at == m.length) {
            into.add(m.clone());
            return;
        }
        for (int h = 0; h < n; h++) {
            m[at] = h;
            list(m, at + 1, n, into);
        }
    }

    static int digits(int[] m) {
        int number = 0;
        for (int h : m) {
            number = number * 10 + h;
        }
        return number;
    }

    int net(int guest, int halves) {
        guestIs(guest);
        String s = Integer.toString(halves);
        if (halves < 0 || s.length() > guests.size()) {
            within(1, 0, 0);
        }
        s = "0".repeat(guests.size() - s.length()) + s;
        int[] came = new int[guests.size()];
        for (int i = 0; i < came.length; i++) {
            came[i] = s.charAt(i) - '0';
        }
        return through(came, numbers(), l).net[guest];
    }

    private int bestSum;
    private int[] bestWay;

    private void allWays(int at, int sum, int[] way, List<int[]> on) {
        if (at == guests.size()) {
            if (sum > bestSum) {
                bestSum = sum;
                bestWay = way.clone();
            }
            return;
        }
        way[at] = -1;
        allWays(at + 1, sum, way, on);
        for (int c = 0; c < on.size(); c++) {
            boolean gone = false;
            for (int i = 0; i < at; i++) {
                gone |= way[i] == c;
            }
            if (!gone) {
                way[at] = c;
                Guest one = guests.get(at);
                int worth = 0;
                for (int h = one.f; h < one.t; h++) {
                    worth += on.get(c)[h < 12 ? 0 : 1];
                }
                allWays(at + 1, sum + worth, way, on);
            }
        }
    }

    private int best(List<int[]> on) {
        bestSum = -1;
        allWays(0, 0, new int[guests.size()], on);
        return bestSum;
    }

    int given() {
        return best(chairs);
    }

    int gets(int guest) {
        guestIs(guest);
        best(chairs);
        return bestWay[guest];
    }

    int waste() {
        return given() - sum(today().got);
    }

    int more(int a, int b) {
        within(a, 0, 9);
        within(b, 0, 9);
        List<int[]> on = new ArrayList<>(chairs);
        on.add(new int[] {a, b});
        return best(on) - best(chairs);
    }

    int want(int price) {
        within(price, 0, 999);
        int many = 0;
        for (int i = 0; i < guests.size(); i++) {
            boolean one = false;
            for (int c = 0; c < chairs.size(); c++) {
                one |= worthFrom(i, c, 0) >= price;
            }
            many += one ? 1 : 0;
        }
        return many;
    }

    int just(int what) {
        within(what, 0, 1);
        int found = -1;
        for (int price = 0; price <= 999; price++) {
            if (want(price) == chairs.size()) {
                if (what == 0) {
                    return price;
                }
                found = price;
            }
        }
        return found;
    }

    int off(int what) {
        within(what, 0, 1);
        int best = 0;
        int most = -1;
        for (int limit = 23; limit >= 1; limit--) {
            int got = sum(through(today().came, numbers(), limit).got);
            if (got >= most) {
                most = got;
                best = limit;
            }
        }
        return what == 0 ? best : most;
    }

    int turnsOf(int n) {
        within(n, 1, 99);
        if (guests.isEmpty()) {
            return 0;
        }
        int[] often = new int[guests.size()];
        for (int d = 0; d < n; d++) {
            boolean[] has = new boolean[guests.size()];
            for (int i = 0; i < chairs.size(); i++) {
                has[(d * chairs.size() + i) % guests.size()] = true;
            }
            for (int i = 0; i < has.length; i++) {
                often[i] += has[i] ? 1 : 0;
            }
        }
        java.util.Arrays.sort(often);
        return often[often.length - 1] - often[0];
    }

    private int seed;

    private int draw(int by) {
        seed = (int) (seed * 1103515245L + 12345L);
        return (int) ((seed & 0xffffffffL) / 65536 % 32768 % by);
    }

    List<Integer> drawn() {
        List<Integer> order = numbers();
        for (int i = order.size() - 1; i >= 1; i--) {
            java.util.Collections.swap(order, i, draw(i + 1));
        }
        return order;
    }

    int lot(int by, int what) {
        within(what, 0, 2);
        seed = by;
        Log log = through(today().came, drawn(), l);
        return what == 0 ? sum(log.got) : what == 1 ? bits(log.took) : idle(log);
    }

    int lucky(int guest, int by, int many) {
        guestIs(guest);
        within(many, 1, 40);
        int often = 0;
        for (int i = 0; i < many; i++) {
            seed = by + i;
            often += through(today().came, drawn(), l).took[guest] > 0 ? 1 : 0;
        }
        return often;
    }

    int summer(int by, int n, int what) {
        within(n, 1, 60);
        within(what, 0, 3);
        seed = by;
        int got = 0;
        int idle = 0;
        int[] often = new int[guests.size()];
        Log log = null;
        for (int d = 0; d < n; d++) {
            int[] came = d == 0 ? waking() : next(log, habits, d);
            log = through(came, drawn(), l);
            got += sum(log.got);
            idle += idle(log);
            for (int i = 0; i < often.length; i++) {
                often[i] += log.took[i] > 0 ? 1 : 0;
            }
        }
        int best = often.length - 1;
        for (int i = often.length - 1; i >= 0; i--) {
            best = often[i] >= often[best] ? i : best;
        }
        return what == 0 ? got : what == 1 ? idle : what == 2 ? best : lost(log);
    }

    int fits(int guest) {
        guestIs(guest);
        int bits = 0;
        for (int k = 0; k < guests.size(); k++) {
            List<Habit> by = new ArrayList<>(habits);
            by.set(guest, habits.get(k));
            List<Log> logs = daysBy(by, 61);
            boolean all = true;
            for (Line line : book) {
                all &= line.guest() != guest || logs.get(line.day()).came[guest] == line.half();
            }
            bits |= all ? 1 << k : 0;
        }
        return bits;
    }

    int right() {
        int so = 0;
        for (Line line : book) {
            if (past().get(line.day()).came[line.guest()] != line.half()) {
                return so;
            }
            so++;
        }
        return so;
    }

    int early(int half) {
        within(half, 0, 23);
        int bits = 0;
        for (int i = 0; i < guests.size(); i++) {
            bits |= today().came[i] <= half ? 1 << i : 0;
        }
        return bits;
    }

    /** Keeps what the hotel, the hire and the wakings were ahead of a change. */
    private boolean change() {
        if (changes.size() == 20) {
            return false;
        }
        int[] was = java.util.Arrays.copyOf(waking(), guests.size() + 3);
        was[guests.size()] = g;
        was[guests.size() + 1] = l;
        was[guests.size() + 2] = p;
        changes.add(was);
        past = null;
        return true;
    }

    int hotel(int newG, int newL) {
        within(newG, 0, 23);
        within(newL, 1, 23);
        if (!change()) {
            return 0;
        }
        g = newG;
        l = newL;
        return 1;
    }

    int hire(int newP) {
        within(newP, 0, 99);
        if (!change()) {
            return 0;
        }
        p = newP;
        return 1;
    }

    int wakes(int guest, int half) {
        guestIs(guest);
        within(half, 0, 23);
        if (!change()) {
            return 0;
        }
        guests.get(guest).u = half;
        return 1;
    }

    private void put(int[] was) {
        for (int i = 0; i < guests.size(); i++) {
            guests.get(i).u = was[i];
        }
        past = null;
    }

    int undo() {
        if (changes.isEmpty()) {
            return -1;
        }
        int[] was = changes.remove(changes.size() - 1);
        put(was);
        g = was[guests.size()];
        l = was[guests.size() + 1];
        p = was[guests.size() + 2];
        return changes.size();
    }

    int image() {
        if (images.size() == 3) {
            return -1;
        }
        State s = new State();
        s.g = g;
        s.l = l;
        s.p = p;
        s.day = day;
        s.wakes = waking();
        s.changes = new ArrayList<>(changes);
        images.add(s);
        return images.size();
    }

    int restore() {
        if (images.isEmpty()) {
            return -1;
        }
        State s = images.remove(images.size() - 1);
        g = s.g;
        l = s.l;
        p = s.p;
        day = s.day;
        put(s.wakes);
        changes = s.changes;
        return images.size();
    }

    int status(int what) {
        return what >= 0 && what <= 2 ? refused[what] : -1;
    }

    int count(int what) {
        return what == 0 ? images.size() : what == 1 ? tape.length : what == 2 ? changes.size() : -1;
    }
}
