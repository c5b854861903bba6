import java.util.ArrayList;
import java.util.Collections;
import java.util.List;
import java.util.regex.Matcher;
import java.util.regex.Pattern;

/**
 * The document once more, written another way (lists, recursion, regular expressions, copies of everything), so that
 * a slip in the one is not a slip in the other. Answers as the class should; method names are the class's.
 */
final class Model {
    static final class Pupil {
        char kind;
        int quick;
        int teaches;
        boolean sick;
        int learn;
        int teach;

        Pupil copy() {
            Pupil c = new Pupil();
            c.kind = kind;
            c.quick = quick;
            c.teaches = teaches;
            c.sick = sick;
            c.learn = learn;
            c.teach = teach;
            return c;
        }
    }

    static final class Room {
        List<Pupil> pupils = new ArrayList<>();
        List<Integer> seats = new ArrayList<>();
        int hours = 2;
        int law = 1;
        int pass = 10;
        int week = 0;
        boolean ring = true;
        List<Integer> row = new ArrayList<>();
        StringBuilder letters = new StringBuilder();

        Room copy() {
            Room c = new Room();
            for (Pupil p : pupils) {
                c.pupils.add(p.copy());
            }
            c.seats.addAll(seats);
            c.hours = hours;
            c.law = law;
            c.pass = pass;
            c.week = week;
            c.ring = ring;
            c.row.addAll(row);
            c.letters.append(letters);
            return c;
        }

        int size() {
            return pupils.size();
        }

        int neighbour(int p, int step) {
            int i = seats.indexOf(p) + step;
            if (ring) {
                return seats.get(Math.floorMod(i, size()));
            }
            return i >= 0 && i < size() ? seats.get(i) : -9;
        }

        int left(int p) {
            return neighbour(p, 1);
        }

        int right(int p) {
            return neighbour(p, -1);
        }

        void hours(int p, int learnt) {
            pupils.get(p).learn = learnt;
            pupils.get(p).teach = hours - learnt;
        }

        int knows(int p) {
            if (p < 0 || pupils.get(p).sick) {
                return 0;
            }
            Pupil one = pupils.get(p);
            int sum = one.quick * one.learn;
            for (int q = 0; q < size(); q++) {
                if (left(q) == p && !pupils.get(q).sick) {
                    sum += pupils.get(q).teaches * pupils.get(q).teach;
                }
            }
            return sum;
        }

        int mark(int p) {
            List<Integer> known = new ArrayList<>();
            for (int q = 0; q < size(); q++) {
                known.add(knows(q));
            }
            int own = known.get(p);
            int l = left(p) < 0 ? 0 : known.get(left(p));
            int r = right(p) < 0 ? 0 : known.get(right(p));
            int sum = known.stream().mapToInt(Integer::intValue).sum();
            int[] byLaw = {own, l, r, (l + r) / 2, (l + own) / 2, sum / size(), Collections.min(known)};
            return byLaw[law];
        }

        List<Integer> marks() {
            List<Integer> list = new ArrayList<>();
            for (int p = 0; p < size(); p++) {
                list.add(mark(p));
            }
            return list;
        }

        int all() {
            return marks().stream().mapToInt(Integer::intValue).sum();
        }

        int passed() {
            int bits = 0;
            for (int p = 0; p < size(); p++) {
                bits += mark(p) >= pass ? 1 << p : 0;
            }
            return bits;
        }

        void swap(int one, int other) {
            Collections.swap(seats, seats.indexOf(one), seats.indexOf(other));
        }

        List<Integer> learns() {
            List<Integer> list = new ArrayList<>();
            for (Pupil p : pupils) {
                list.add(p.learn);
            }
            return list;
        }

        void learns(List<Integer> list) {
            for (int p = 0; p < size(); p++) {
                hours(p, list.get(p));
            }
        }

        void goWeek() {
            List<Integer> teach = new ArrayList<>();
            for (int p = 0; p < size(); p++) {
                teach.add(teachNext(p));
            }
            for (int p = 0; p < size(); p++) {
                hours(p, hours - teach.get(p));
            }
            week++;
        }

        int teachNext(int p) {
            switch (pupils.get(p).kind) {
                case 's':
                    return 0;
                case 'l':
                    return hours;
                case 'h':
                    return hours / 2;
                case 't':
                    return right(p) >= 0 && pupils.get(right(p)).teach > 0 ? hours : 0;
                case 'b':
                    int best = 0;
                    for (int t = 1; t <= hours; t++) {
                        best = markIfTeaching(p, t) > markIfTeaching(p, best) ? t : best;
                    }
                    return best;
                default:
                    return pupils.get(p).teach;
            }
        }

        int markIfTeaching(int p, int t) {
            Room c = copy();
            c.hours(p, hours - t);
            return c.mark(p);
        }

        List<List<Integer>> seatings() {
            List<List<Integer>> found = new ArrayList<>();
            orders(new ArrayList<>(), found);
            found.removeIf(order -> ring && !order.isEmpty() && order.get(0) != 0);
            return found;
        }

        void orders(List<Integer> begun, List<List<Integer>> found) {
            if (begun.size() == size()) {
                found.add(new ArrayList<>(begun));
            }
            for (int p = 0; p < size(); p++) {
                if (!begun.contains(p)) {
                    begun.add(p);
                    orders(begun, found);
                    begun.remove(begun.size() - 1);
                }
            }
        }

        Room seated(List<Integer> order) {
            Room c = copy();
            c.seats = new ArrayList<>(order);
            return c;
        }

        List<List<Integer>> ways() {
            List<List<Integer>> found = new ArrayList<>();
            found.add(new ArrayList<>());
            for (int p = 0; p < size(); p++) {
                List<List<Integer>> longer = new ArrayList<>();
                for (List<Integer> way : found) {
                    for (int h = 0; h <= hours; h++) {
                        List<Integer> w = new ArrayList<>(way);
                        w.add(h);
                        longer.add(w);
                    }
                }
                found = longer;
            }
            return found;
        }

        boolean rests(List<Integer> way) {
            Room c = copy();
            c.learns(way);
            for (int p = 0; p < size(); p++) {
                int own = c.mark(p);
                for (int h = 0; h <= hours; h++) {
                    c.hours(p, h);
                    if (c.mark(p) > own) {
                        return false;
                    }
                }
                c.hours(p, way.get(p));
            }
            return true;
        }

        int allBy(List<Integer> way, int byLaw) {
            Room c = copy();
            c.law = byLaw;
            c.learns(way);
            return c.all();
        }

        int good(int byLaw) {
            int greatest = 0;
            for (List<Integer> way : ways()) {
                greatest = Math.max(greatest, allBy(way, byLaw));
            }
            return greatest;
        }

        List<List<Integer>> resting() {
            List<List<Integer>> found = ways();
            found.removeIf(way -> !rests(way));
            return found;
        }
    }

    private static final String STATEMENT = "(?:p[slhtbo]\\d\\d|[hl]\\d|[rw]|x\\d\\d|m\\d\\d?);";
    private static final Pattern SCHOOL = Pattern.compile("(?:" + STATEMENT + ")+");
    private static final Pattern ONE = Pattern.compile(STATEMENT);

    Room now = new Room();
    Room kept = null;
    int[] refused = new int[7];

    int no(int number) {
        refused[-number]++;
        return number;
    }

    boolean is(int p) {
        return p >= 0 && p < now.size();
    }

    int letter(int c) {
        if (c < 0) {
            return no(-4);
        }
        if (c > 255 || now.letters.length() == 64) {
            return no(-6);
        }
        now.letters.append((char) c);
        return now.letters.length();
    }

    static boolean canGoOn(String text) {
        Matcher m = SCHOOL.matcher(text);
        return m.matches() || m.hitEnd();
    }

    int school() {
        String text = now.letters.toString();
        now.letters.setLength(0);
        for (int i = 0; i < text.length(); i++) {
            if (!canGoOn(text.substring(0, i + 1))) {
                return -1000 - i;
            }
        }
        if (!SCHOOL.matcher(text).matches()) {
            return -1000 - text.length();
        }
        Room c = now.copy();
        Matcher m = ONE.matcher(text);
        int statements = 0;
        while (m.find()) {
            if (!tell(c, m.group())) {
                return -2000 - m.start();
            }
            statements++;
        }
        now = c;
        return statements;
    }

    static boolean tell(Room c, String s) {
        String rest = s.substring(1, s.length() - 1);
        switch (s.charAt(0)) {
            case 'p':
                Pupil p = new Pupil();
                p.kind = rest.charAt(0);
                p.quick = rest.charAt(1) - '0';
                p.teaches = rest.charAt(2) - '0';
                p.learn = c.hours;
                c.seats.add(c.size());
                c.pupils.add(p);
                return c.size() <= 6;
            case 'h':
                c.hours = Integer.parseInt(rest);
                for (int q = 0; q < c.size(); q++) {
                    c.hours(q, c.hours);
                }
                return c.hours >= 1 && c.hours <= 3;
            case 'l':
                c.law = Integer.parseInt(rest);
                return c.law <= 6;
            case 'm':
                c.pass = Integer.parseInt(rest);
                return true;
            case 'x':
                int one = rest.charAt(0) - '0';
                int other = rest.charAt(1) - '0';
                if (one >= c.size() || other >= c.size() || one == other) {
                    return false;
                }
                c.swap(one, other);
                return true;
            default:
                c.ring = s.charAt(0) == 'r';
                return true;
        }
    }

    int pupil(int p, int what) {
        if (!is(p)) {
            return no(-1);
        }
        if (what < 0 || what > 7) {
            return no(-2);
        }
        Pupil o = now.pupils.get(p);
        return new int[] {"slhtbo".indexOf(o.kind), o.quick, o.teaches, o.sick ? 1 : 0, o.learn, o.teach,
            now.seats.indexOf(p), now.left(p)}[what];
    }

    int sick(int p, int is) {
        if (!is(p)) {
            return no(-1);
        }
        if (is != 0 && is != 1) {
            return no(-2);
        }
        int was = now.pupils.get(p).sick ? 1 : 0;
        now.pupils.get(p).sick = is == 1;
        return was;
    }

    int learn(int p, int hours) {
        if (!is(p)) {
            return no(-1);
        }
        if (hours < 0) {
            return no(-4);
        }
        if (hours > now.hours) {
            return no(-6);
        }
        int was = now.pupils.get(p).learn;
        now.hours(p, hours);
        return was;
    }

    int swap(int one, int other) {
        if (!is(one) || !is(other) || one == other) {
            return no(-1);
        }
        now.swap(one, other);
        return 1;
    }

    int law(int v) {
        if (v < 0 || v > 6) {
            return no(-2);
        }
        int was = now.law;
        now.law = v;
        return was;
    }

    int pass(int v) {
        if (v < 0) {
            return no(-4);
        }
        if (v > 99) {
            return no(-6);
        }
        int was = now.pass;
        now.pass = v;
        return was;
    }

    int week() {
        if (now.week == 999) {
            return no(-6);
        }
        now.goWeek();
        return now.week;
    }

    int knows(int p) {
        return is(p) ? now.knows(p) : no(-1);
    }

    int mark(int p) {
        return is(p) ? now.mark(p) : no(-1);
    }

    int passed() {
        return now.passed();
    }

    int all() {
        return now.all();
    }

    Room weeks(int n) {
        Room c = now.copy();
        for (int k = 0; k < n; k++) {
            c.goWeek();
        }
        return c;
    }

    int after(int p, int n) {
        if (p != -1 && !is(p)) {
            return no(-1);
        }
        if (n < 0) {
            return no(-4);
        }
        if (n > 40) {
            return no(-6);
        }
        return p == -1 ? weeks(n).all() : weeks(n).mark(p);
    }

    int again() {
        for (int n = 1; n <= 30; n++) {
            if (weeks(n).learns().equals(now.learns()) && weeks(2 * n).learns().equals(now.learns())) {
                return n;
            }
        }
        return -9;
    }

    Room bestRoom() {
        Room best = null;
        for (List<Integer> order : now.seatings()) {
            Room c = now.seated(order);
            if (best == null || rank(c) > rank(best)) {
                best = c;
            }
        }
        return best;
    }

    static int rank(Room c) {
        return Integer.bitCount(c.passed()) * 100000 + c.all();
    }

    int best(int what) {
        if (what != 0 && what != 1) {
            return no(-2);
        }
        if (now.size() == 0) {
            return no(-3);
        }
        return what == 0 ? Integer.bitCount(bestRoom().passed()) : bestRoom().all();
    }

    int bestSeat(int i) {
        if (i < 0) {
            return no(-4);
        }
        return i < now.size() ? bestRoom().seats.get(i) : -9;
    }

    int sumLeast() {
        if (now.size() == 0) {
            return no(-3);
        }
        return now.seatings().stream().mapToInt(order -> now.seated(order).all()).min().getAsInt();
    }

    int rests(int what) {
        if (what != 0 && what != 1) {
            return no(-2);
        }
        List<List<Integer>> resting = now.resting();
        if (what == 0) {
            return resting.size();
        }
        return resting.isEmpty() ? -9 : now.allBy(resting.get(0), now.law);
    }

    int rest(int p) {
        if (!is(p)) {
            return no(-1);
        }
        List<List<Integer>> resting = now.resting();
        return resting.isEmpty() ? -9 : resting.get(0).get(p);
    }

    int good() {
        return now.good(now.law);
    }

    int far() {
        int greatest = -1;
        for (List<Integer> way : now.resting()) {
            greatest = Math.max(greatest, now.allBy(way, now.law));
        }
        return greatest < 0 ? -9 : now.good(now.law) - greatest;
    }

    int byLaw(int law) {
        return law < 0 || law > 6 ? no(-2) : now.good(law);
    }

    int hour(int p, int what) {
        if (!is(p)) {
            return no(-1);
        }
        if (what != 0 && what != 1) {
            return no(-2);
        }
        Room c = now.copy();
        c.pupils.get(p).learn++;
        int bits = 0;
        for (int q = 0; q < now.size(); q++) {
            bits += c.mark(q) > now.mark(q) ? 1 << q : 0;
        }
        return what == 0 ? c.all() - now.all() : bits;
    }

    int mends(int pupils) {
        for (int bit = 0; bit < 32; bit++) {
            if ((pupils >>> bit & 1) == 1 && !is(bit)) {
                return no(-1);
            }
        }
        List<Room> rooms = List.of(now);
        for (int changes = 0; changes <= 2; changes++) {
            for (Room c : rooms) {
                if ((c.passed() & pupils) == pupils) {
                    return changes;
                }
            }
            rooms = changed(rooms);
        }
        return -9;
    }

    static List<Room> changed(List<Room> rooms) {
        List<Room> found = new ArrayList<>();
        for (Room c : rooms) {
            for (int i = 0; i < c.size(); i++) {
                for (int j = 0; j < i; j++) {
                    Room other = c.copy();
                    other.swap(i, j);
                    found.add(other);
                }
            }
        }
        return found;
    }

    int row(int v) {
        if (v < 0) {
            return no(-4);
        }
        if (v > 99 || now.row.size() == 6) {
            return no(-6);
        }
        now.row.add(v);
        return now.row.size();
    }

    int fitting(int i) {
        if (i < -1) {
            return no(-4);
        }
        if (now.row.size() != now.size()) {
            return no(-3);
        }
        List<List<Integer>> found = now.seatings();
        found.removeIf(order -> !now.seated(order).marks().equals(now.row));
        if (i == -1) {
            return found.size();
        }
        return found.isEmpty() || i >= now.size() ? -9 : found.get(0).get(i);
    }

    int forged() {
        if (now.row.size() != now.size()) {
            return no(-3);
        }
        int bits = 0;
        for (List<Integer> order : now.seatings()) {
            List<Integer> marks = now.seated(order).marks();
            for (int p = 0; p < now.size(); p++) {
                List<Integer> others = new ArrayList<>(marks);
                List<Integer> told = new ArrayList<>(now.row);
                others.remove(p);
                told.remove(p);
                bits |= others.equals(told) ? 1 << p : 0;
            }
        }
        return bits;
    }

    int judge() {
        List<Integer> told = now.row;
        now.row = new ArrayList<>();
        List<Integer> marks = now.marks();
        int i = 0;
        while (i < told.size() && i < marks.size() && told.get(i).equals(marks.get(i))) {
            i++;
        }
        return told.equals(marks) ? -9 : i;
    }

    int seeds(int n, int z) {
        if (n < 1) {
            return no(-4);
        }
        if (n > 20) {
            return no(-6);
        }
        if (now.size() == 0) {
            return no(-3);
        }
        Room c = now.copy();
        int sum = 0;
        for (int k = 0; k < n; k++) {
            int[] draws = new int[2];
            for (int j = 0; j < 2; j++) {
                z = (int) ((long) z * 1664525L + 1013904223L);
                draws[j] = (z << 1 >>> 9) % now.size();
            }
            c.swap(draws[0], draws[1]);
            c.goWeek();
            sum += Integer.bitCount(c.passed());
        }
        return sum;
    }

    int image() {
        kept = now.copy();
        return now.week;
    }

    int on() {
        if (kept == null) {
            return no(-3);
        }
        now = kept.copy();
        return now.week;
    }

    int count(int what) {
        if (what >= 11 && what <= 16) {
            return refused[what - 10];
        }
        if (what < 0 || what > 7) {
            return -9;
        }
        return new int[] {now.size(), now.hours, now.week, now.law, now.pass, now.ring ? 1 : 0, now.row.size(),
            now.letters.length()}[what];
    }
}
