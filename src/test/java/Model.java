import java.math.BigInteger;
import java.time.LocalDate;
import java.util.ArrayList;
import java.util.Arrays;
import java.util.List;
import java.util.TreeMap;

/**
 * A second reckoner, by plain recursion and with the library's own numbers and dates, as "Terms" III to V say it. It knows
 * the NAMES of Check; laws are told to it as they are made, not as texts.
 */
final class Model {
    static final int TRUTH = 0;
    static final int COUNT = 1;
    static final int MONEY = 2;
    static final int RATE = 3;
    static final int DATE = 4;
    static final int SPAN = 5;
    static final int REAL = 6;
    static final int PERSON = 7;
    static final int NONE = -1;
    private static final int LAST = 65535;
    private static final long MOST_MONEY = 1000000000000L;
    private static final LocalDate FIRST_DAY = LocalDate.of(1900, 1, 1);

    /** A FAULT of a reckoning. */
    static final class Fault extends RuntimeException {
        private static final long serialVersionUID = 1;
        final int number;

        Fault(int number) {
            super(null, null, false, false);
            this.number = number;
        }
    }

    /** A PART: its word or sign, what it stands over, its KIND, the NAME that it has, or its constant. */
    static final class Part {
        final String op;
        final int kind;
        final Part[] under;
        int name = NONE;
        long[] constant;
        String text;

        Part(String op, int kind, Part... under) {
            this.op = op;
            this.kind = kind;
            this.under = under;
        }
    }

    /** A RULE of a TERM, or of a TABLE, if it has rows (each a bound and a value's two numbers). */
    static final class Rule {
        int name;
        int article = NONE;
        int number;
        Part ex;
        Part when;
        List<long[]> rows;
    }

    /** A VERSION; a RULE that is null is VOID. */
    static final class Version {
        int article;
        int from;
        int told;
        final List<Rule> rules = new ArrayList<>();
    }

    record Told(int person, int name, long a, long b, int from, int to, int told, boolean withdrawn) { }

    record Annulled(Rule rule, int from, int told) { }

    /** A RULE in force, its article and number. */
    record Placed(Rule rule, int article, int number) { }

    record Open(int term, int person, int day) { }

    final int[] kinds;
    final long[][] elses;
    final int joining;
    final int rounded;
    int people = 1;
    final List<Told> records = new ArrayList<>();
    final List<Told> supposed = new ArrayList<>();
    List<Version> versions = new ArrayList<>();
    final List<Annulled> annulled = new ArrayList<>();
    boolean supposing = true;

    private int known;
    int steps;
    final List<long[]> lines = new ArrayList<>();
    private final List<Open> terms = new ArrayList<>();
    private final List<List<Placed>> rules = new ArrayList<>();
    int[] failed = {0, NONE, NONE, NONE, NONE, 0};

    Model(int[] kinds, long[][] elses, int joining, int rounded) {
        this.kinds = kinds;
        this.elses = elses;
        this.joining = joining;
        this.rounded = rounded;
    }

    static LocalDate dateOf(long day) {
        return FIRST_DAY.plusDays(day);
    }

    static long dayOf(LocalDate date) {
        return date.toEpochDay() - FIRST_DAY.toEpochDay();
    }

    private static long[] one(long a) {
        return new long[] {a, 0};
    }

    private static long[] truth(boolean is) {
        return one(is ? 1 : 0);
    }

    private static long[] count(BigInteger n) {
        if (n.bitLength() > 31) {
            throw new Fault(8);
        }
        return one(n.longValue());
    }

    private static long[] money(BigInteger cents) {
        if (cents.abs().compareTo(BigInteger.valueOf(MOST_MONEY)) > 0) {
            throw new Fault(8);
        }
        return one(cents.longValue());
    }

    private static long[] rate(BigInteger over, BigInteger under) {
        BigInteger shared = over.gcd(under).multiply(BigInteger.valueOf(under.signum()));
        BigInteger most = BigInteger.valueOf(1000000);
        if (over.divide(shared).abs().compareTo(most) > 0 || under.divide(shared).compareTo(most) > 0) {
            throw new Fault(8);
        }
        return new long[] {over.divide(shared).longValue(), under.divide(shared).longValue()};
    }

    private static long[] date(long day) {
        if (day < 0 || day > LAST) {
            throw new Fault(8);
        }
        return one(day);
    }

    private static long[] span(long months, long days) {
        if (Math.abs(months) > 2400 || Math.abs(days) > LAST) {
            throw new Fault(8);
        }
        return new long[] {months, days};
    }

    private static long[] real(double x) {
        if (Double.isNaN(x) || Double.isInfinite(x)) {
            throw new Fault(9);
        }
        return one(Double.doubleToRawLongBits(x));
    }

    private static double real(long[] v) {
        return Double.longBitsToDouble(v[0]);
    }

    private static BigInteger big(long n) {
        return BigInteger.valueOf(n);
    }

    /** To the nearest, halves away from 0. */
    private static BigInteger near(BigInteger over, BigInteger under) {
        BigInteger twice = over.abs().shiftLeft(1).add(under.abs()).divide(under.abs().shiftLeft(1));
        return over.signum() * under.signum() < 0 ? twice.negate() : twice;
    }

    static long[] shift(long day, long months, long days) {
        LocalDate date = dateOf(day).plusMonths(months);
        if (date.getYear() < 1800 || date.getYear() > 2200) {
            throw new Fault(8);
        }
        return date(dayOf(date) + days);
    }

    static long fullMonths(long a, long b) {
        if (a > b) {
            return -fullMonths(b, a);
        }
        long n = 0;
        while (!dateOf(a).plusMonths(n + 1).isAfter(dateOf(b))) {
            n++;
        }
        return n;
    }

    static long round(String mode, long cents, long unit) {
        if (unit <= 0) {
            throw new Fault(7);
        }
        long below = Math.floorDiv(cents, unit);
        long left = cents - below * unit;
        boolean up = left > 0 && (mode.equals("up") || 2 * left > unit && !mode.equals("down")
                || 2 * left == unit && (mode.equals("near") && cents > 0 || mode.equals("even") && below % 2 != 0));
        return money(big(below + (up ? 1 : 0)).multiply(big(unit)))[0];
    }

    /** The VALUE of a FACT that a SUPPOSITION or a RECORD tells, or null. */
    private long[] told(int name, int person, int day) {
        for (Told s : supposed) {
            if (supposing && s.name == name && s.person == person) {
                return new long[] {s.a, s.b};
            }
        }
        for (int i = records.size() - 1; i >= 0; i--) {
            Told r = records.get(i);
            if (r.name == name && r.person == person && r.told <= known && r.from <= day && day <= r.to) {
                return r.withdrawn ? null : new long[] {r.a, r.b};
            }
        }
        return null;
    }

    /** The VERSIONS in force on a DAY as known on one, by article. */
    static TreeMap<Integer, Version> inForce(List<Version> law, int day, int known) {
        TreeMap<Integer, Version> found = new TreeMap<>();
        for (Version v : law) {
            Version other = found.get(v.article);
            if (v.from <= day && v.told <= known && (other == null || v.from >= other.from)) {
                found.put(v.article, v);
            }
        }
        return found;
    }

    boolean isAnnulled(Rule rule, int day) {
        for (Annulled a : annulled) {
            if (a.rule == rule && a.from <= day && a.told <= known) {
                return true;
            }
        }
        return false;
    }

    List<Placed> rulesInForce(int day, int knownOn) {
        known = knownOn;
        return rulesInForce(day);
    }

    private List<Placed> rulesInForce(int day) {
        List<Placed> found = new ArrayList<>();
        for (Version v : inForce(versions, day, known).values()) {
            for (int i = 0; i < v.rules.size(); i++) {
                if (v.rules.get(i) != null && !isAnnulled(v.rules.get(i), day)) {
                    found.add(new Placed(v.rules.get(i), v.article, i + 1));
                }
            }
        }
        return found;
    }

    private void step() {
        if (steps == 10000) {
            throw new Fault(5);
        }
        steps++;
    }

    private long[] line(int sort, int name, int person, int day, int article, int number) {
        long[] line = {sort, terms.size(), name, person, day, article, number, 0, 0, 0};
        lines.add(line);
        return line;
    }

    private static long[] close(long[] line, int state, long[] value) {
        line[7] = state;
        line[8] = value[0];
        line[9] = value[1];
        return value;
    }

    /** A TERM, or a question; what came of it, or null with a FAULT, which then is the latest. */
    long[] reckon(int term, Part question, int person, int day, int knownOn) {
        known = knownOn;
        lines.clear();
        terms.clear();
        rules.clear();
        try {
            return question == null ? term(term, person, day) : part(question, person, day);
        } catch (Fault fault) {
            fail(fault.number);
            return null;
        }
    }

    private void fail(int number) {
        failed = new int[] {number, NONE, NONE, NONE, NONE, 0};
        if (!terms.isEmpty()) {
            Open open = terms.get(terms.size() - 1);
            List<Placed> within = rules.get(rules.size() - 1);
            failed[1] = open.term;
            failed[2] = open.person;
            failed[3] = open.day;
            if (!within.isEmpty()) {
                failed[4] = within.get(within.size() - 1).article;
                failed[5] = within.get(within.size() - 1).number;
            }
        }
    }

    private long[] term(int term, int person, int day) {
        Open open = new Open(term, person, day);
        if (terms.contains(open)) {
            throw new Fault(3);
        }
        if (terms.size() == 12) {
            throw new Fault(4);
        }
        long[] line = line(1, term, person, day, NONE, 0);
        terms.add(open);
        rules.add(new ArrayList<>());
        List<Placed> inForce = rulesInForce(day);
        long[] found = null;
        for (Placed rule : inForce) {
            if (rule.rule.name == term && rule.rule.rows == null && rule.rule.article == NONE) {
                found = second(found, rule(rule, inForce, open, 0));
            }
        }
        if (found == null) {
            if (elses[term] == null) {
                throw new Fault(1);
            }
            found = elses[term];
        }
        terms.remove(terms.size() - 1);
        rules.remove(rules.size() - 1);
        return close(line, 0, found);
    }

    private static long[] second(long[] found, long[] next) {
        if (found != null && next != null) {
            throw new Fault(2);
        }
        return found != null ? found : next;
    }

    /** The VALUE by which a RULE HOLDS, or null. */
    private long[] rule(Placed at, List<Placed> inForce, Open open, int exceptions) {
        if (exceptions == 7) {
            throw new Fault(4);
        }
        step();
        long[] line = line(2, open.term, open.person, open.day, at.article, at.number);
        List<Placed> within = rules.get(rules.size() - 1);
        within.add(at);
        long[] found = null;
        for (Placed other : inForce) {
            if (other.rule.name == open.term && other.rule.rows == null && other.rule.article == at.article
                    && other.rule.number == at.number) {
                found = second(found, rule(other, inForce, open, exceptions + 1));
            }
        }
        if (found != null) {
            close(line, 2, found);
        } else if (at.rule.when == null || part(at.rule.when, open.person, open.day)[0] == 1) {
            found = part(at.rule.ex, open.person, open.day);
            if (open.term == rounded) {
                found = one(round("down", found[0], 100));
            }
            close(line, 1, found);
        }
        within.remove(within.size() - 1);
        return found;
    }

    long[] part(Part p, int self, int day) {
        step();
        switch (p.op) {
            case "constant":
                return p.constant;
            case "day":
                return one(day);
            case "self":
                return one(self);
            case "state":
                return one(0);
            case "has":
                return truth(told(p.name, self, day) != null);
            case "fact":
                return fact(p.name, self, day);
            case "term":
                return term(p.name, self, day);
            case "or":
            case "and":
                long[] left = part(p.under[0], self, day);
                return left[0] == (p.op.equals("or") ? 1 : 0) ? left : part(p.under[1], self, day);
            case "of":
                return part(p.under[0], (int) part(p.under[1], self, day)[0], day);
            case "on":
                return part(p.under[0], self, (int) part(p.under[1], self, day)[0]);
            case "if":
                return part(part(p.under[0], self, day)[0] == 1 ? p.under[1] : p.under[2], self, day);
            case "over":
                return over(p, self, day);
            case "level":
            case "slices":
            case "between":
                return table(p, part(p.under[0], self, day)[0], day);
            case "sum":
            case "count":
            case "any":
            case "all":
            case "greatest":
            case "smallest":
                return set(p, self, day);
            default:
                long[][] v = new long[p.under.length][];
                for (int i = 0; i < v.length; i++) {
                    v[i] = part(p.under[i], self, day);
                }
                return v.length == 1 ? ofOne(p.op, p.under[0].kind, v[0])
                        : v.length == 3 ? ofDate(v) : ofTwo(p.op, p.under[0].kind, v[0], p.under[1].kind, v[1]);
        }
    }

    private long[] fact(int name, int self, int day) {
        long[] line = line(3, name, self, day, NONE, 0);
        long[] found = told(name, self, day);
        found = found == null ? elses[name] : found;
        if (found == null) {
            throw new Fault(6);
        }
        return close(line, 0, found);
    }

    private static long[] ofDate(long[][] v) {
        if (v[0][0] < 1900 || v[0][0] > 2079 || v[1][0] < 1 || v[1][0] > 12 || v[2][0] < 1
                || v[2][0] > LocalDate.of((int) v[0][0], (int) v[1][0], 1).lengthOfMonth()) {
            throw new Fault(8);
        }
        return date(dayOf(LocalDate.of((int) v[0][0], (int) v[1][0], (int) v[2][0])));
    }

    private static boolean isWorking(long day) {
        return day % 7 < 5;
    }

    private static long[] ofOne(String op, int kind, long[] v) {
        LocalDate date = kind == DATE ? dateOf(v[0]) : FIRST_DAY;
        switch (op) {
            case "not":
                return truth(v[0] == 0);
            case "- ":
                return kind == REAL ? real(-real(v)) : kind == COUNT ? count(big(-v[0]))
                        : new long[] {-v[0], kind == SPAN ? -v[1] : v[1]};
            case "size":
                return kind == REAL ? real(Math.abs(real(v))) : kind == COUNT ? count(big(Math.abs(v[0])))
                        : new long[] {Math.abs(v[0]), v[1]};
            case "first":
                return date(dayOf(date.withDayOfMonth(1)));
            case "last":
                return date(dayOf(date.withDayOfMonth(date.lengthOfMonth())));
            case "yearof":
                return one(date.getYear());
            case "monthof":
                return one(date.getMonthValue());
            case "dayof":
                return one(date.getDayOfMonth());
            case "weekday":
                return one(date.getDayOfWeek().getValue());
            case "working":
                return truth(isWorking(v[0]));
            case "due":
                long due = v[0];
                while (due <= LAST && !isWorking(due)) {
                    due++;
                }
                return date(due);
            case "real":
                return real(kind == MONEY ? v[0] / 100.0 : kind == RATE ? (double) v[0] / (double) v[1] : v[0]);
            case "root":
                if (real(v) < 0) {
                    throw new Fault(9);
                }
                return real(Math.sqrt(real(v)));
            case "cents":
                double cents = Math.rint(real(v) * 100.0);
                if (Math.abs(cents) > MOST_MONEY) {
                    throw new Fault(8);
                }
                return one((long) cents);
            default:
                double cut = kind == RATE ? v[0] / v[1] : real(v);
                if (cut <= -2147483649.0 || cut >= 2147483648.0) {
                    throw new Fault(8);
                }
                return one((long) cut);
        }
    }

    /** Below, like or above 0. */
    private static int compare(int leftKind, long[] l, int rightKind, long[] r) {
        if (leftKind == REAL) {
            return real(l) < real(r) ? -1 : real(l) > real(r) ? 1 : 0;
        }
        if (leftKind == SPAN) {
            return Arrays.equals(l, r) ? 0 : 1;
        }
        return big(l[0]).multiply(big(rightKind == RATE ? r[1] : 1)).compareTo(
                big(r[0]).multiply(big(leftKind == RATE ? l[1] : 1)));
    }

    private static long[] ofTwo(String op, int leftKind, long[] l, int rightKind, long[] r) {
        int order = compare(leftKind, l, rightKind, r);
        switch (op) {
            case "=":
                return truth(order == 0);
            case "#":
                return truth(order != 0);
            case "<":
                return truth(order < 0);
            case "<=":
                return truth(order <= 0);
            case ">":
                return truth(order > 0);
            case ">=":
                return truth(order >= 0);
            case "least":
                return order <= 0 ? l : r;
            case "most":
                return order >= 0 ? l : r;
            case "fullmonths":
                return one(fullMonths(l[0], r[0]));
            case "fullyears":
                return one(fullMonths(l[0], r[0]) / 12);
            case "daysto":
                return one(r[0] - l[0]);
            case "up":
            case "down":
            case "near":
            case "even":
                return one(round(op, l[0], r[0]));
            default:
                return leftKind == REAL ? ofReals(op, real(l), real(r)) : ofNumbers(op, leftKind, l, rightKind, r);
        }
    }

    private static long[] ofReals(String op, double l, double r) {
        if (r == 0 && (op.equals("/") || op.equals("rem"))) {
            throw new Fault(7);
        }
        return real(op.equals("+") ? l + r : op.equals("-") ? l - r : op.equals("*") ? l * r : op.equals("/") ? l / r : l % r);
    }

    private static long[] ofNumbers(String op, int leftKind, long[] l, int rightKind, long[] r) {
        if (leftKind == DATE) {
            int sign = op.equals("+") ? 1 : -1;
            return rightKind == DATE ? span(0, l[0] - r[0]) : shift(l[0], sign * r[0], sign * r[1]);
        }
        BigInteger lo = big(l[0]);
        BigInteger ro = big(r[0]);
        BigInteger lu = big(leftKind == RATE ? l[1] : 1);
        BigInteger ru = big(rightKind == RATE ? r[1] : 1);
        boolean money = leftKind == MONEY || rightKind == MONEY;
        if (op.equals("*")) {
            if (leftKind == SPAN || rightKind == SPAN) {
                long times = leftKind == SPAN ? r[0] : l[0];
                long[] span = leftKind == SPAN ? l : r;
                return span(span[0] * times, span[1] * times);
            }
            return money ? money(near(lo.multiply(ro), lu.multiply(ru)))
                    : leftKind == COUNT && rightKind == COUNT ? count(lo.multiply(ro)) : rate(lo.multiply(ro), lu.multiply(ru));
        }
        if (op.equals("/") || op.equals("rem")) {
            if (r[0] == 0) {
                throw new Fault(7);
            }
            return op.equals("rem") ? one(l[0] % r[0]) : leftKind == MONEY && rightKind != MONEY
                    ? money(near(lo.multiply(ru), ro)) : rate(lo.multiply(ru), lu.multiply(ro));
        }
        int sign = op.equals("+") ? 1 : -1;
        if (leftKind == SPAN) {
            return span(l[0] + sign * r[0], l[1] + sign * r[1]);
        }
        BigInteger other = ro.multiply(big(sign));
        return money ? money(lo.add(other)) : leftKind == COUNT && rightKind == COUNT ? count(lo.add(other))
                : rate(lo.multiply(ru).add(other.multiply(lu)), lu.multiply(ru));
    }

    private static long[] nothing(int kind) {
        return new long[] {0, kind == RATE ? 1 : 0};
    }

    private static long[] add(int kind, long[] sum, long[] next) {
        return ofTwo("+", kind, sum, kind, next);
    }

    private long[] over(Part p, int self, int day) {
        long from = part(p.under[1], self, day)[0];
        long to = part(p.under[2], self, day)[0];
        long[] sum = nothing(p.kind);
        int many = 0;
        for (long at = from; at <= to; at++) {
            if (dateOf(at).getDayOfMonth() == 1) {
                many++;
                if (many == 61) {
                    throw new Fault(5);
                }
                sum = add(p.kind, sum, part(p.under[0], self, (int) at));
            }
        }
        return sum;
    }

    private long[] table(Part p, long m, int day) {
        List<long[]> rows = null;
        for (Placed placed : rulesInForce(day)) {
            rows = placed.rule.name == p.name ? placed.rule.rows : rows;
        }
        if (rows == null) {
            throw new Fault(1);
        }
        int last = rows.size() - 1;
        if (p.op.equals("level")) {
            long[] found = nothing(p.kind);
            for (long[] row : rows) {
                found = row[0] <= m ? new long[] {row[1], row[2]} : found;
            }
            return found;
        }
        if (p.op.equals("slices")) {
            long[] sum = nothing(MONEY);
            for (int i = 0; i <= last; i++) {
                long[] row = rows.get(i);
                if (row[0] < m) {
                    long end = i == last ? m : Math.min(m, rows.get(i + 1)[0]);
                    sum = add(MONEY, sum, money(near(big(end - row[0]).multiply(big(row[1])), big(row[2]))));
                }
            }
            return sum;
        }
        if (m <= rows.get(0)[0]) {
            return one(rows.get(0)[1]);
        }
        if (m >= rows.get(last)[0]) {
            return one(rows.get(last)[1]);
        }
        int at = 0;
        while (rows.get(at + 1)[0] < m) {
            at++;
        }
        long[] low = rows.get(at);
        long[] high = rows.get(at + 1);
        return one(low[1] + near(big(high[1] - low[1]).multiply(big(m - low[0])), big(high[0] - low[0])).longValue());
    }

    /** Who hangs together with one. */
    private boolean[] together(int self, int day) {
        boolean[] found = new boolean[people];
        found[self] = true;
        for (int turn = 0; turn < people; turn++) {
            for (int person = 0; person < people; person++) {
                long[] mate = told(joining, person, day);
                if (mate != null && (found[person] || found[(int) mate[0]])) {
                    found[person] = true;
                    found[(int) mate[0]] = true;
                }
            }
        }
        return found;
    }

    private long[] set(Part p, int self, int day) {
        int kind = p.under[0].kind;
        boolean[] together = p.name == NONE ? together(self, day) : null;
        long[] found = p.op.equals("all") ? one(1) : nothing(p.op.equals("sum") ? kind : COUNT);
        boolean any = false;
        for (int person = 0; person < people; person++) {
            step();
            long[] whose = together != null ? one(together[person] ? self : NONE) : told(p.name, person, day);
            if (whose == null || whose[0] != self) {
                continue;
            }
            long[] next = part(p.under[0], person, day);
            switch (p.op) {
                case "sum":
                case "count":
                    found = add(p.op.equals("sum") ? kind : COUNT, found, next);
                    break;
                case "any":
                case "all":
                    if (next[0] == (p.op.equals("any") ? 1 : 0)) {
                        return next;
                    }
                    break;
                default:
                    int order = any ? compare(kind, next, kind, found) : 0;
                    found = !any || (p.op.equals("greatest") ? order > 0 : order < 0) ? next : found;
                    break;
            }
            any = true;
        }
        if (!any && (p.op.equals("greatest") || p.op.equals("smallest"))) {
            throw new Fault(6);
        }
        return found;
    }
}
