import java.math.BigInteger;
import java.util.ArrayList;
import java.util.List;

/**
 * The document once more, as plainly as it can be said: day by day, month by month, with fractions
 * of BigInteger, and a copy of everything ahead of each change. Slow, and written apart from
 * Pensionledger, so that the two can be asked the same.
 */
public final class PlainLedger {
    static final class Frac implements Comparable<Frac> {
        static final Frac ZERO = new Frac(BigInteger.ZERO, BigInteger.ONE);
        final BigInteger a;
        final BigInteger b;

        Frac(BigInteger x, BigInteger y) {
            BigInteger g = x.gcd(y);
            if (y.signum() < 0) {
                g = g.negate();
            }
            a = x.divide(g);
            b = y.divide(g);
        }

        static Frac of(long x, long y) {
            return new Frac(BigInteger.valueOf(x), BigInteger.valueOf(y));
        }

        static Frac of(long x) {
            return of(x, 1);
        }

        Frac plus(Frac o) {
            return new Frac(a.multiply(o.b).add(o.a.multiply(b)), b.multiply(o.b));
        }

        Frac minus(Frac o) {
            return plus(new Frac(o.a.negate(), o.b));
        }

        Frac times(Frac o) {
            return new Frac(a.multiply(o.a), b.multiply(o.b));
        }

        Frac times(long x, long y) {
            return times(of(x, y));
        }

        BigInteger floor() {
            BigInteger[] q = a.divideAndRemainder(b);
            return q[1].signum() < 0 ? q[0].subtract(BigInteger.ONE) : q[0];
        }

        public int compareTo(Frac o) {
            return a.multiply(o.b).compareTo(o.a.multiply(b));
        }

        @Override
        public String toString() {
            return b.equals(BigInteger.ONE) ? a.toString() : a + "/" + b;
        }
    }

    /** A row of {beginning, values..}; the order in which they were told does not matter. */
    static final class Steps {
        List<int[]> rows = new ArrayList<>();

        Steps copy() {
            Steps s = new Steps();
            for (int[] r : rows) {
                s.rows.add(r.clone());
            }
            return s;
        }

        int[] at(int moment) {
            int[] best = null;
            for (int[] r : rows) {
                if (r[0] <= moment && (best == null || r[0] > best[0])) {
                    best = r;
                }
            }
            return best;
        }

        int at(int moment, int first) {
            int[] r = at(moment);
            return r == null ? first : r[1];
        }

        boolean begins(int moment) {
            int[] r = at(moment);
            return r != null && r[0] == moment;
        }

        void tell(int... row) {
            rows.removeIf(r -> r[0] == row[0]);
            rows.add(row);
        }
    }

    static final class Who {
        int birth;
        int death = -1;
        List<int[]> spells = new ArrayList<>();
        Steps[] wages = {new Steps(), new Steps(), new Steps()};
    }

    static final class Where {
        Steps rules = new Steps();
        int vest = 2, normal = 720, early = 3, late = 5;
        int form = 0, many = 3, bound = 99999;
        int widow = 60, floor = 0, top = 5, bridge = 0, bridgeAge = 720;
        Steps points = new Steps();
        Steps annuity = new Steps();
    }

    static final class State {
        List<Who> who = new ArrayList<>();
        Where[] where = {new Where(), new Where(), new Where()};
        Steps price = new Steps();
        boolean[][] tied = new boolean[3][3];
        List<int[]> marriages = new ArrayList<>(); // member, other, from, until, share
        List<int[]> streams = new ArrayList<>(); // member, house, month, rank, carry
        List<List<Integer>> paid = new ArrayList<>();
        List<List<Integer>> booked = new ArrayList<>();
        int interest;

        State copy() {
            State s = new State();
            for (Who w : who) {
                Who n = new Who();
                n.birth = w.birth;
                n.death = w.death;
                for (int[] x : w.spells) {
                    n.spells.add(x.clone());
                }
                for (int h = 0; h < 3; h++) {
                    n.wages[h] = w.wages[h].copy();
                }
                s.who.add(n);
            }
            for (int h = 0; h < 3; h++) {
                Where o = where[h];
                Where n = s.where[h];
                n.rules = o.rules.copy();
                n.vest = o.vest;
                n.normal = o.normal;
                n.early = o.early;
                n.late = o.late;
                n.form = o.form;
                n.many = o.many;
                n.bound = o.bound;
                n.widow = o.widow;
                n.floor = o.floor;
                n.top = o.top;
                n.bridge = o.bridge;
                n.bridgeAge = o.bridgeAge;
                n.points = o.points.copy();
                n.annuity = o.annuity.copy();
                s.tied[h] = tied[h].clone();
            }
            s.price = price.copy();
            for (int[] x : marriages) {
                s.marriages.add(x.clone());
            }
            for (int[] x : streams) {
                s.streams.add(x.clone());
            }
            for (List<Integer> x : paid) {
                s.paid.add(new ArrayList<>(x));
            }
            for (List<Integer> x : booked) {
                s.booked.add(new ArrayList<>(x));
            }
            s.interest = interest;
            return s;
        }
    }

    State s = new State();
    final List<State> past = new ArrayList<>();
    String typed = "";
    int knocks;

    public PlainLedger() {
        for (Where w : s.where) {
            w.rules.tell(0, 20, 30, 10);
        }
    }

    // ---- the checks

    static void arg(boolean ok) {
        if (!ok) {
            throw new IllegalArgumentException();
        }
    }

    static void state(boolean ok) {
        if (!ok) {
            throw new IllegalStateException();
        }
    }

    static void index(boolean ok) {
        if (!ok) {
            throw new IndexOutOfBoundsException();
        }
    }

    static boolean in(int x, int a, int b) {
        return a <= x && x <= b;
    }

    static boolean day(int x) {
        return in(x, 0, 5999);
    }

    static boolean month(int x) {
        return in(x, 0, 1199);
    }

    static boolean year(int x) {
        return in(x, 0, 99);
    }

    void m(int x) {
        index(in(x, 0, s.who.size() - 1));
    }

    void h(int x) {
        index(in(x, 0, 2));
    }

    void change() {
        past.add(s.copy());
        if (past.size() > 8) {
            past.remove(0);
        }
    }

    // ---- changes

    public int member(int birth) {
        arg(day(birth));
        state(s.who.size() < 4);
        change();
        Who w = new Who();
        w.birth = birth;
        s.who.add(w);
        return s.who.size() - 1;
    }

    public int spell(int member, int house, int from, int to, int part, int kind) {
        m(member);
        h(house);
        arg(day(from) && day(to) && to >= from && in(part, 1, 100) && in(kind, 0, 2));
        Who w = s.who.get(member);
        state(from >= w.birth && w.spells.size() < 10);
        change();
        w.spells.add(new int[] {house, from, to, part, kind});
        return w.spells.size() - 1;
    }

    public int unspell(int member, int nth) {
        m(member);
        Who w = s.who.get(member);
        index(in(nth, 0, w.spells.size() - 1));
        change();
        w.spells.remove(nth);
        return w.spells.size();
    }

    public int cut(int member, int nth, int day) {
        m(member);
        Who w = s.who.get(member);
        index(in(nth, 0, w.spells.size() - 1));
        int[] x = w.spells.get(nth);
        arg(day > x[1] && day <= x[2]);
        state(w.spells.size() < 10);
        change();
        int[] y = x.clone();
        x[2] = day - 1;
        y[1] = day;
        w.spells.add(y);
        return w.spells.size() - 1;
    }

    public int death(int member, int day) {
        m(member);
        Who w = s.who.get(member);
        arg(day == -1 || (day(day) && day >= w.birth));
        change();
        int before = w.death;
        w.death = day;
        return before;
    }

    public int wage(int member, int house, int month, int coins) {
        m(member);
        h(house);
        arg(month(month) && in(coins, 0, 9999));
        Steps t = s.who.get(member).wages[house];
        state(t.rows.size() < 8 || t.begins(month));
        change();
        int before = t.at(month, 0);
        t.tell(month, coins);
        return before;
    }

    public int price(int year, int price) {
        arg(year(year) && in(price, 1, 9999));
        state(s.price.rows.size() < 12 || s.price.begins(year));
        change();
        int before = s.price.at(year, 100);
        s.price.tell(year, price);
        return before;
    }

    public int rule(int house, int day, int rate, int bend, int behind) {
        h(house);
        arg(day(day) && in(rate, 0, 50) && in(behind, 0, 50) && in(bend, 0, 60));
        Steps t = s.where[house].rules;
        state(t.rows.size() < 6 || t.begins(day));
        change();
        t.tell(day, rate, bend, behind);
        return t.rows.size();
    }

    public int terms(int house, int vest, int normal, int early, int late) {
        h(house);
        arg(in(vest, 0, 20) && in(normal, 0, 1199) && in(early, 0, 10) && in(late, 0, 10));
        change();
        Where w = s.where[house];
        int before = w.vest;
        w.vest = vest;
        w.normal = normal;
        w.early = early;
        w.late = late;
        return before;
    }

    public int form(int house, int form, int many, int bound) {
        h(house);
        arg(in(form, 0, 2) && in(many, 1, 10) && in(bound, 0, 99999));
        change();
        Where w = s.where[house];
        int before = w.form;
        w.form = form;
        w.many = many;
        w.bound = bound;
        return before;
    }

    public int tie(int house, int other, boolean is) {
        h(house);
        h(other);
        arg(house != other);
        change();
        s.tied[house][other] = is;
        s.tied[other][house] = is;
        int n = 0;
        for (int i = 0; i < 3; i++) {
            for (int j = 0; j < i; j++) {
                n += s.tied[i][j] ? 1 : 0;
            }
        }
        return n;
    }

    boolean diedAhead(int member, int day) {
        int d = s.who.get(member).death;
        return d != -1 && d < day;
    }

    public int marry(int member, int other, int day) {
        m(member);
        m(other);
        arg(member != other && day(day));
        state(s.marriages.size() < 4);
        for (int x : new int[] {member, other}) {
            state(!diedAhead(x, day));
            for (int[] w : s.marriages) {
                if (w[0] == x || w[1] == x) {
                    if (w[3] != -1) {
                        state(w[3] <= day);
                    } else {
                        state(diedAhead(w[0] == x ? w[1] : w[0], day));
                    }
                }
            }
        }
        change();
        s.marriages.add(new int[] {member, other, day, -1, -1});
        return s.marriages.size() - 1;
    }

    public int divide(int marriage, int day, int share) {
        index(in(marriage, 0, s.marriages.size() - 1));
        arg(day(day) && in(share, 0, 100));
        int[] w = s.marriages.get(marriage);
        state(w[3] == -1 && day > w[2] && !diedAhead(w[0], day) && !diedAhead(w[1], day));
        for (int k = marriage + 1; k < s.marriages.size(); k++) {
            int[] v = s.marriages.get(k);
            boolean shared = v[0] == w[0] || v[0] == w[1] || v[1] == w[0] || v[1] == w[1];
            state(!(shared && v[2] < day));
        }
        change();
        w[3] = day;
        w[4] = share;
        return day - w[2];
    }

    public int widows(int house, int part) {
        h(house);
        arg(in(part, 0, 100));
        change();
        int before = s.where[house].widow;
        s.where[house].widow = part;
        return before;
    }

    public int raise(int house, int floor, int top) {
        h(house);
        arg(in(top, 0, 30) && in(floor, -10, top));
        change();
        int before = s.where[house].top;
        s.where[house].floor = floor;
        s.where[house].top = top;
        return before;
    }

    public int bridge(int house, int coins, int age) {
        h(house);
        arg(in(coins, 0, 999) && in(age, 0, 1199));
        change();
        int before = s.where[house].bridge;
        s.where[house].bridge = coins;
        s.where[house].bridgeAge = age;
        return before;
    }

    public int lessen(int house, int month, int points) {
        h(house);
        arg(month(month) && in(points, -300, 300));
        Steps t = s.where[house].points;
        state(t.rows.size() < 8 || t.begins(month));
        change();
        int now = t.at(month, 300) - points;
        now = now < 0 ? 0 : now > 300 ? 300 : now;
        t.tell(month, now);
        return now;
    }

    public int annuity(int house, int age, int years) {
        h(house);
        arg(in(age, 0, 99) && in(years, 1, 40));
        Steps t = s.where[house].annuity;
        state(t.rows.size() < 6 || t.begins(age));
        change();
        int before = t.at(age, 20);
        t.tell(age, years);
        return before;
    }

    public int go(int member, int house, int month, int rank) {
        m(member);
        h(house);
        arg(month(month) && in(rank, 0, 2));
        state(s.streams.size() < 6);
        for (int[] x : s.streams) {
            state(x[0] != member || x[1] != house);
        }
        state(own(member, house, month * 5) && !diedAhead(member, month * 5));
        change();
        s.streams.add(new int[] {member, house, month, rank, 0});
        s.paid.add(new ArrayList<>());
        s.booked.add(new ArrayList<>());
        return s.streams.size() - 1;
    }

    public int payOut(int stream) {
        index(in(stream, 0, s.streams.size() - 1));
        int[] x = s.streams.get(stream);
        List<Integer> paid = s.paid.get(stream);
        List<Integer> booked = s.booked.get(stream);
        int n = paid.size();
        state(n < 24 && month(x[2] + n));
        change();
        long sum = 0;
        for (int i = 0; i < n; i++) {
            long now = dueIn(x, x[2] + i);
            sum += (now - booked.get(i)) * (1000 + s.interest * (n - i));
            booked.set(i, (int) now);
        }
        long mending = Frac.of(sum, 1000).floor().longValueExact();
        int next = dueIn(x, x[2] + n);
        booked.add(next);
        long all = next + mending + x[4];
        if (all < 0) {
            x[4] = Math.toIntExact(all);
            paid.add(0);
            return 0;
        }
        x[4] = 0;
        paid.add(Math.toIntExact(all));
        return Math.toIntExact(all);
    }

    public int interest(int rate) {
        arg(in(rate, 0, 10));
        change();
        int before = s.interest;
        s.interest = rate;
        return before;
    }

    public int enter(int member, int house) {
        m(member);
        h(house);
        int f = fault();
        if (f != -1) {
            return -2 - f;
        }
        String[] dash = typed.split("-");
        String[] colon = dash[1].split(":");
        String part = colon[1].substring(0, colon[1].length() - 1);
        int kind = "wrg".indexOf(typed.charAt(typed.length() - 1));
        try {
            int n = spell(member, house, Integer.parseInt(dash[0]), Integer.parseInt(colon[0]), Integer.parseInt(part), kind);
            typed = "";
            return n;
        } catch (IllegalArgumentException | IllegalStateException e) {
            return -50;
        }
    }

    // ---- no changes

    public int type(int a, int b, int c, int d, int e, int f) {
        int[] keys = {a, b, c, d, e, f};
        for (int k : keys) {
            arg(in(k, -1, 16));
        }
        String t = typed;
        for (int k : keys) {
            if (k == 15) {
                t = t.isEmpty() ? t : t.substring(0, t.length() - 1);
            } else if (k == 16) {
                t = "";
            } else if (k >= 0) {
                t += "0123456789-:wrg".charAt(k);
                state(t.length() <= 14);
            }
        }
        typed = t;
        return t.length();
    }

    public int undo() {
        state(!past.isEmpty());
        s = past.remove(past.size() - 1);
        return past.size();
    }

    public int knock() {
        return ++knocks;
    }

    // ---- days

    static int raw(Who w, int house, int day, boolean workAlone) {
        int best = 0;
        for (int[] x : w.spells) {
            if (x[0] == house && x[1] <= day && day <= x[2]) {
                if (x[4] == 2) {
                    return 0;
                }
                if (x[4] == 0 || !workAlone) {
                    best = Math.max(best, x[3]);
                }
            }
        }
        return w.death != -1 && w.death < day ? 0 : best;
    }

    static int hasOn(Who w, int house, int day) {
        int left = 100;
        int has = 0;
        for (int h = 0; h <= house; h++) {
            has = Math.min(raw(w, h, day, false), left);
            left -= has;
        }
        return has;
    }

    static int workedOn(Who w, int house, int day) {
        return Math.min(hasOn(w, house, day), raw(w, house, day, true));
    }

    static int timeAhead(Who w, int house, int day) {
        int sum = 0;
        for (int d = 0; d < day; d++) {
            sum += hasOn(w, house, d);
        }
        return sum;
    }

    public int has(int member, int house, int day) {
        m(member);
        h(house);
        arg(day(day));
        return hasOn(s.who.get(member), house, day);
    }

    public int time(int member, int house, int from, int to) {
        m(member);
        h(house);
        arg(day(from) && day(to) && to >= from);
        return timeAhead(s.who.get(member), house, to + 1) - timeAhead(s.who.get(member), house, from);
    }

    int workedIn(int member, int house, int month) {
        int sum = 0;
        for (int d = month * 5; d < month * 5 + 5; d++) {
            sum += workedOn(s.who.get(member), house, d);
        }
        return sum;
    }

    public int worked(int member, int house, int month) {
        m(member);
        h(house);
        arg(month(month));
        return workedIn(member, house, month);
    }

    Frac pay(int member, int house, int year, int other) {
        long sum = 0;
        for (int mo = year * 12; mo < year * 12 + 12; mo++) {
            sum += (long) s.who.get(member).wages[house].at(mo, 0) * workedIn(member, house, mo);
        }
        return Frac.of(sum, 500).times(s.price.at(other, 100), s.price.at(year, 100));
    }

    public String yearPay(int member, int house, int year, int other) {
        m(member);
        h(house);
        arg(year(year) && year(other));
        return pay(member, house, year, other).toString();
    }

    Frac baseFor(int member, int house, int year) {
        Where w = s.where[house];
        List<Frac> pays = new ArrayList<>();
        for (int y = 0; y < year; y++) {
            pays.add(pay(member, house, y, year));
        }
        Frac sum = Frac.ZERO;
        int number = w.many;
        if (w.form == 0) {
            pays.sort((x, y) -> y.compareTo(x));
            for (int i = 0; i < number && i < pays.size(); i++) {
                sum = sum.plus(pays.get(i));
            }
        } else if (w.form == 1) {
            number = 0;
            for (Frac p : pays) {
                sum = sum.plus(p);
                number += p.a.signum() > 0 ? 1 : 0;
            }
            if (number == 0) {
                return Frac.ZERO;
            }
        } else {
            for (int y = Math.max(0, year - number); y < year; y++) {
                Frac bound = Frac.of(w.bound);
                sum = sum.plus(pays.get(y).compareTo(bound) > 0 ? bound : pays.get(y));
            }
        }
        return sum.times(1, number);
    }

    public String base(int member, int house, int year) {
        m(member);
        h(house);
        arg(year(year));
        return baseFor(member, house, year).toString();
    }

    // ---- rights

    static long earnedAhead(Who w, Where where, int house, int day) {
        long units = 0;
        long time = 0;
        for (int d = 0; d < day; d++) {
            int has = hasOn(w, house, d);
            int[] rule = where.rules.at(d);
            units += has * (time < rule[2] * 6000L ? rule[1] : rule[3]);
            time += has;
        }
        return units;
    }

    long units(int member, int house, int day) {
        return earnedAhead(s.who.get(member), s.where[house], house, day);
    }

    public String earned(int member, int house, int day) {
        m(member);
        h(house);
        arg(day(day));
        return Frac.of(units(member, house, day), 6000000).toString();
    }

    boolean reaches(int house, int other) {
        if (house == other || s.tied[house][other]) {
            return true;
        }
        int third = 3 - house - other;
        return s.tied[house][third] && s.tied[third][other];
    }

    boolean own(int member, int house, int day) {
        long time = 0;
        for (int o = 0; o < 3; o++) {
            if (reaches(house, o)) {
                time += timeAhead(s.who.get(member), o, day);
            }
        }
        return time >= s.where[house].vest * 6000L;
    }

    public boolean isOwn(int member, int house, int day) {
        m(member);
        h(house);
        arg(day(day));
        return own(member, house, day);
    }

    int age(int member, int month) {
        return month - s.who.get(member).birth / 5;
    }

    public int factor(int member, int house, int month) {
        m(member);
        h(house);
        arg(month(month));
        Where w = s.where[house];
        int age = age(member, month);
        if (age < w.normal) {
            return Math.max(0, 1000 - (w.normal - age) * w.early);
        }
        return 1000 + w.late * Math.min(60, age - w.normal);
    }

    Frac pensionOf(int member, int house, int month) {
        int day = month * 5;
        if (!own(member, house, day)) {
            return Frac.ZERO;
        }
        return Frac.of(units(member, house, day), 6000000).times(baseFor(member, house, day / 60))
            .times(factor(member, house, month), 12000);
    }

    public String pension(int member, int house, int month) {
        m(member);
        h(house);
        arg(month(month));
        return pensionOf(member, house, month).toString();
    }

    public String face(int member, int house, int month) {
        m(member);
        h(house);
        arg(month(month));
        String digits = pensionOf(member, house, month).times(100, 1).floor().toString();
        while (digits.length() < 3) {
            digits = "0" + digits;
        }
        int point = digits.length() - 2;
        return digits.substring(0, point) + "." + digits.substring(point);
    }

    Frac gives(int member, int other, int house, int month, int at) {
        if (diedAhead(other, at * 5)) {
            return Frac.ZERO;
        }
        Frac pension = pensionOf(member, house, month);
        long all = units(member, house, month * 5);
        if (all == 0) {
            return Frac.ZERO;
        }
        Frac sum = Frac.ZERO;
        for (int[] w : s.marriages) {
            boolean both = (w[0] == member && w[1] == other) || (w[0] == other && w[1] == member);
            if (both && w[3] != -1) {
                long then = units(member, house, Math.min(w[3], month * 5)) - units(member, house, Math.min(w[2], month * 5));
                sum = sum.plus(pension.times(then, all).times(w[4], 100));
            }
        }
        return sum;
    }

    Frac keeps(int member, int house, int month, int at) {
        Frac left = pensionOf(member, house, month);
        for (int o = 0; o < s.who.size(); o++) {
            if (o != member) {
                left = left.minus(gives(member, o, house, month, at));
            }
        }
        return left;
    }

    public String kept(int member, int house, int month, int at) {
        m(member);
        h(house);
        arg(month(month) && month(at));
        return keeps(member, house, month, at).toString();
    }

    public String given(int member, int other, int house, int month, int at) {
        m(member);
        m(other);
        h(house);
        arg(member != other && month(month) && month(at));
        return gives(member, other, house, month, at).toString();
    }

    int last(int member) {
        for (int k = s.marriages.size() - 1; k >= 0; k--) {
            if (s.marriages.get(k)[0] == member || s.marriages.get(k)[1] == member) {
                return k;
            }
        }
        return -1;
    }

    public String widow(int member, int house) {
        m(member);
        h(house);
        int k = last(member);
        if (k == -1) {
            return "0";
        }
        int[] w = s.marriages.get(k);
        int other = w[0] == member ? w[1] : w[0];
        int death = s.who.get(other).death;
        if (w[3] != -1 || death == -1 || death < w[2]) {
            return "0";
        }
        return keeps(other, house, death / 5, death / 5).times(s.where[house].widow, 100).toString();
    }

    // ---- levels, values

    Frac levelOf(int house, int first, int year) {
        Frac level = Frac.of(1);
        for (int y = first + 1; y <= year; y++) {
            Frac wanted = Frac.of(s.price.at(y, 100), s.price.at(first, 100));
            Frac most = level.times(100 + s.where[house].top, 100);
            Frac least = level.times(100 + s.where[house].floor, 100);
            level = wanted;
            if (level.compareTo(most) > 0) {
                level = most;
            }
            if (level.compareTo(least) < 0) {
                level = least;
            }
        }
        return level;
    }

    public String level(int house, int first, int year) {
        h(house);
        arg(year(first) && year(year) && year >= first && year - first <= 20);
        return levelOf(house, first, year).toString();
    }

    int points(int house, int rank, int month) {
        int above = s.where[house].points.at(month, 300) - 100 * rank;
        return above < 0 ? 0 : Math.min(100, above);
    }

    public int ofClass(int house, int rank, int month) {
        h(house);
        index(in(rank, 0, 2));
        arg(month(month));
        return points(house, rank, month);
    }

    int annuityAt(int member, int house, int month) {
        int age = age(member, month);
        return s.where[house].annuity.at(age < 0 ? 0 : age / 12, 20);
    }

    Frac valueOf(int member, int house, int month) {
        return pensionOf(member, house, month).times(12L * annuityAt(member, house, month), 1);
    }

    public String value(int member, int house, int month) {
        m(member);
        h(house);
        arg(month(month));
        return valueOf(member, house, month).toString();
    }

    public String transferred(int member, int house, int other, int month) {
        m(member);
        h(house);
        h(other);
        arg(month(month));
        return valueOf(member, house, month).times(1, 12L * annuityAt(member, other, month)).toString();
    }

    public String lump(int member, int house, int month, int part) {
        m(member);
        h(house);
        arg(month(month) && in(part, 0, 100));
        Frac pension = pensionOf(member, house, month);
        return valueOf(member, house, month).times(part, 100) + " " + pension.minus(pension.times(part, 100));
    }

    public int best(int member, int house, int from, int to, int until) {
        m(member);
        h(house);
        arg(month(from) && month(to) && to >= from && to - from <= 36 && month(until) && until >= to);
        int best = -1;
        Frac most = null;
        for (int mo = from; mo <= to; mo++) {
            Frac all = pensionOf(member, house, mo).times(until - mo, 1);
            if (most == null || all.compareTo(most) > 0) {
                most = all;
                best = mo;
            }
        }
        return best;
    }

    public String wouldEarn(int member, int house, int from, int to, int part) {
        m(member);
        h(house);
        arg(day(from) && day(to) && to >= from && in(part, 1, 100));
        Who w = s.copy().who.get(member);
        state(from >= w.birth);
        w.spells.add(new int[] {house, from, to, part, 0});
        return Frac.of(earnedAhead(w, s.where[house], house, to + 1), 6000000).toString();
    }

    // ---- payments

    int dueIn(int[] x, int month) {
        if (diedAhead(x[0], month * 5)) {
            return 0;
        }
        Frac all = keeps(x[0], x[1], x[2], month).times(levelOf(x[1], x[2] / 12, month / 12))
            .times(points(x[1], x[3], month), 100);
        int coins = all.floor().min(BigInteger.valueOf(99999)).intValueExact();
        return coins + (age(x[0], month) < s.where[x[1]].bridgeAge ? s.where[x[1]].bridge : 0);
    }

    public int due(int stream, int month) {
        index(in(stream, 0, s.streams.size() - 1));
        int[] x = s.streams.get(stream);
        arg(month(month) && month >= x[2] && month - x[2] <= 120);
        return dueIn(x, month);
    }

    public int paid(int stream, int nth) {
        index(in(stream, 0, s.streams.size() - 1));
        index(in(nth, 0, s.paid.get(stream).size() - 1));
        return s.paid.get(stream).get(nth);
    }

    static int sum(List<Integer> row) {
        int sum = 0;
        for (int x : row) {
            sum += x;
        }
        return sum;
    }

    public int ofStream(int stream, int what) {
        index(in(stream, 0, s.streams.size() - 1));
        arg(in(what, 0, 7));
        int[] x = s.streams.get(stream);
        return what < 4 ? x[what] : what == 4 ? s.paid.get(stream).size() : what == 5 ? sum(s.paid.get(stream))
            : what == 6 ? x[4] : sum(s.booked.get(stream));
    }

    // ---- what there is

    public String line(int member, int nth) {
        m(member);
        index(in(nth, 0, s.who.get(member).spells.size() - 1));
        int[] x = s.who.get(member).spells.get(nth);
        return x[1] + "-" + x[2] + ":" + x[3] + "wrg".charAt(x[4]);
    }

    public int ofMember(int member, int what) {
        m(member);
        arg(in(what, 0, 4));
        Who w = s.who.get(member);
        int streams = 0;
        for (int[] x : s.streams) {
            streams += x[0] == member ? 1 : 0;
        }
        return new int[] {w.birth, w.death, w.spells.size(), last(member), streams}[what];
    }

    public int ofMarriage(int marriage, int what) {
        index(in(marriage, 0, s.marriages.size() - 1));
        arg(in(what, 0, 4));
        return s.marriages.get(marriage)[what];
    }

    public int ofHouse(int house, int what) {
        h(house);
        arg(in(what, 0, 10));
        Where w = s.where[house];
        int set = 0;
        for (int o = 0; o < 3; o++) {
            set += reaches(house, o) ? 1 << o : 0;
        }
        return new int[] {w.rules.rows.size(), w.vest, w.normal, w.form, w.widow, w.floor, w.top, w.bridge,
            w.points.rows.size(), w.annuity.rows.size(), set}[what];
    }

    public String then(int back, int member, int house, int day) {
        arg(in(back, 0, 8) && day(day));
        state(back <= past.size());
        State old = back == 0 ? s : past.get(past.size() - back);
        index(in(member, 0, old.who.size() - 1));
        h(house);
        return Frac.of(earnedAhead(old.who.get(member), old.where[house], house, day), 6000000).toString();
    }

    public String typed() {
        return typed;
    }

    /** The first place from where no line can be made any more, by trying what a longer line could be. */
    public int fault() {
        for (int n = 1; n <= typed.length(); n++) {
            if (!typed.substring(0, n).matches("\\d{1,4}(-(\\d{1,4}(:(\\d{1,3}[wrg]?)?)?)?)?")) {
                return n - 1;
            }
        }
        return typed.matches("\\d{1,4}-\\d{1,4}:\\d{1,3}[wrg]") ? -1 : typed.length();
    }

    public int count(int what) {
        arg(in(what, 0, 8));
        int all = 0;
        for (List<Integer> p : s.paid) {
            all += sum(p);
        }
        return new int[] {s.who.size(), s.marriages.size(), s.streams.size(), past.size(), s.interest, typed.length(),
            knocks, s.price.rows.size(), all}[what];
    }

    /** All of it follows from the words by which it is reckoned, so that it can not but be so. */
    public boolean isSound() {
        return true;
    }

    public long digest() {
        long d = 6553;
        for (int i = 0; i <= 8; i++) {
            d = d * 31 + count(i);
        }
        for (int m = 0; m < s.who.size(); m++) {
            for (int i = 0; i <= 4; i++) {
                d = d * 31 + ofMember(m, i);
            }
            for (int n = 0; n < s.who.get(m).spells.size(); n++) {
                d = d * 31 + line(m, n).length();
            }
            for (int h = 0; h < 3; h++) {
                d = d * 31 + time(m, h, 0, 5999);
                d = d * 31 + earned(m, h, 5999).length();
                d = d * 31 + base(m, h, 60).length();
                d = d * 31 + pension(m, h, 720).length();
                d = d * 31 + (isOwn(m, h, 3000) ? 1 : 0);
                d = d * 31 + factor(m, h, 700);
                d = d * 31 + widow(m, h).length();
            }
        }
        for (int k = 0; k < s.marriages.size(); k++) {
            for (int i = 0; i <= 4; i++) {
                d = d * 31 + ofMarriage(k, i);
            }
        }
        for (int h = 0; h < 3; h++) {
            for (int i = 0; i <= 10; i++) {
                d = d * 31 + ofHouse(h, i);
            }
            d = d * 31 + level(h, 40, 50).length();
            for (int i = 0; i <= 2; i++) {
                d = d * 31 + ofClass(h, i, 720);
            }
        }
        for (int k = 0; k < s.streams.size(); k++) {
            for (int i = 0; i <= 7; i++) {
                d = d * 31 + ofStream(k, i);
            }
            d = d * 31 + due(k, s.streams.get(k)[2]);
        }
        d = d * 31 + fault();
        return d * 31 + (isSound() ? 1 : 0);
    }
}
