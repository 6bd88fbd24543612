import java.time.DayOfWeek;
import java.time.LocalDate;
import java.time.temporal.TemporalAdjusters;
import java.util.ArrayList;
import java.util.HashSet;
import java.util.List;
import java.util.Set;

/** Decisions, payments, reminders and time, one call behind the other, held against a second ledger, as VI says it. */
public final class LedgerModelTest {
    private static final int NONE = -1;
    private static final int RANGE = -2;
    private static final int STATE = -3;
    private static final int FULL = -4;
    private static final int OVER = -18;
    private static final int LAST = Check.LAST;
    private static final long MOST_MONEY = 1000000000000L;
    private static final int OPEN = 0;
    private static final int OBJECTED = 1;
    private static final int FINAL = 2;
    private static final Check CHECK = new Check();
    private static long state = 55;

    private static final class Decision {
        int person;
        int first;
        int stands;
        int ends;
        int taken;
        long[] amounts;
        int[] dues;
    }

    private static final class Booking {
        int person;
        int decision;
        int month;
        long cents;
        int due;
        int sort;
        long open;
        int reminders;
        int latest = NONE;
        boolean barred;
    }

    private static Model model;
    private static int today;
    private static int limit;
    private static long over;
    private static long under;
    private static int fee;
    private static int bar;
    private static long[] credit;
    private static List<Decision> decisions;
    private static List<Booking> bookings;
    private static Set<Long> holidays;
    private static final int[] ANSWERS = new int[9];

    public static void main(String[] args) {
        for (int trial = 0; trial < 400; trial++) {
            begin();
            int turns = trial % 8 == 0 ? 300 : 90;
            for (int turn = 0; turn < turns; turn++) {
                turn();
                if (turn % 12 == 0) {
                    all();
                }
            }
            all();
        }
        for (int i = 0; i < ANSWERS.length; i++) {
            CHECK.due("many answers of sort " + i, ANSWERS[i] > 20 ? 1 : ANSWERS[i], 1);
        }
        CHECK.end("LedgerModelTest");
    }

    private static int next(int below) {
        state = state * 6364136223846793005L + 1442695040888963407L;
        return (int) ((state >>> 33) % below);
    }

    private static void answer(String what, long got, long want) {
        CHECK.due(what, got, want);
        ANSWERS[want == NONE ? 0 : want == RANGE ? 1 : want == STATE ? 2 : want == FULL ? 3 : want == OVER ? 4
                : want < -10 ? 5 : want == 0 ? 6 : want == 1 ? 7 : 8]++;
    }

    /** TAX is pay / n, on all DAYS; n is 1, till it is withdrawn somewhere. */
    private static void begin() {
        CHECK.furnished(3);
        long[][] elses = new long[20][];
        elses[Check.N] = new long[] {0, 0};
        elses[Check.PAY] = new long[] {0, 0};
        model = new Model(new int[20], elses, Check.MATE, Check.WHOLE_TAX);
        model.people = 4;
        model.supposing = false;
        Model.Version version = new Model.Version();
        version.article = 27;
        version.told = Check.TODAY;
        Model.Rule rule = new Model.Rule();
        rule.name = Check.TAX;
        rule.ex = new Model.Part("/", Model.MONEY, named(Model.MONEY, Check.PAY), named(Model.COUNT, Check.N));
        version.rules.add(rule);
        model.versions.add(version);
        CHECK.due("law", CHECK.enact(0, "article 1 from 1900-01-01 { tax is pay / n; }"), 1);
        today = Check.TODAY;
        limit = 48;
        over = 1;
        under = 200;
        fee = 500;
        bar = 60;
        credit = new long[4];
        decisions = new ArrayList<>();
        bookings = new ArrayList<>();
        holidays = new HashSet<>();
        for (int person = 0; person < 4; person++) {
            tells(person, Check.N, 1, 0, LAST, false);
        }
        if (next(4) == 0) {
            passes(LAST - next(300));
        }
    }

    private static Model.Part named(int kind, int name) {
        Model.Part part = new Model.Part("fact", kind);
        part.name = name;
        return part;
    }

    private static void tells(int person, int name, long cents, int from, int to, boolean withdrawn) {
        int got = withdrawn ? CHECK.house.withdraw(person, name, from, to)
                : CHECK.house.fact(person, name, cents, 0, from, to);
        if (got != FULL) {
            model.records.add(new Model.Told(person, name, cents, 0, from, to, today, withdrawn));
            CHECK.due("records", got, model.records.size());
        }
    }

    private static void turn() {
        int person = next(4);
        int decision = next(decisions.size() + 1);
        switch (next(16)) {
            case 0:
            case 1:
            case 2:
                passes(Math.min(LAST, today + (next(3) == 0 ? next(1500) : next(40))));
                break;
            case 3:
            case 4:
            case 5:
                long cents = next(12) == 0 ? (next(2) * 2 - 1) * (MOST_MONEY - next(3)) : next(9) == 0 ? 0 : next(90000) - 9000;
                int from = Math.max(0, Math.min(LAST, today - 1000 + next(1500)));
                tells(person, Check.PAY, cents, next(2) == 0 ? 0 : from, LAST, false);
                break;
            case 6:
                int at = Math.min(LAST, today + next(400) - 200);
                tells(person, Check.N, next(3), at, Math.min(LAST, at + next(60)), next(3) > 0);
                break;
            case 7:
            case 8:
                decides(person);
                break;
            case 9:
                answer("object", CHECK.house.object(decision), objects(decision));
                break;
            case 10:
                boolean granted = next(4) > 0;
                answer("answer", CHECK.house.answer(decision, granted), answers(decision, granted));
                break;
            case 11:
            case 12:
                answer("revise", CHECK.house.revise(decision), decision >= decisions.size() ? NONE
                        : decisions.get(decision).stands == OBJECTED ? STATE : revises(decisions.get(decision), decision, false));
                break;
            case 13:
                pays(person);
                break;
            case 14:
                answer("remind", CHECK.house.remind(person), reminds(person));
                break;
            default:
                rules();
                break;
        }
    }

    private static void rules() {
        switch (next(3)) {
            case 0:
                limit = next(30);
                over = next(40);
                under = 1 + next(900);
                answer("terms", CHECK.house.terms(limit, (int) over, (int) under), 1);
                break;
            case 1:
                fee = next(900);
                bar = 1 + next(30);
                answer("dues", CHECK.house.dues(fee, bar), 1);
                break;
            default:
                tellsHolidays();
                break;
        }
    }

    private static void tellsHolidays() {
        holidays.clear();
        boolean easter = next(2) == 0;
        int number = 1 + next(28);
        int month = 1 + next(12);
        int weekday = next(5);
        String[] weekdays = {"monday", "tuesday", "wednesday", "thursday", "friday"};
        CHECK.due("holidays", CHECK.holidays(number + " " + month + "; 29 2; last " + weekdays[weekday] + " of " + month + ";"
                + (easter ? "easter plus 1;" : "")), easter ? 4 : 3);
        for (int year = 1900; year <= 2079; year++) {
            holidays.add(Model.dayOf(LocalDate.of(year, month, number)));
            LocalDate end = LocalDate.of(year, month, 1).with(TemporalAdjusters.lastInMonth(DayOfWeek.of(weekday + 1)));
            holidays.add(Model.dayOf(end));
            if (LocalDate.of(year, 1, 1).isLeapYear()) {
                holidays.add(Model.dayOf(LocalDate.of(year, 2, 29)));
            }
            if (easter) {
                holidays.add(Model.dayOf(easterOf(year)) + 1);
            }
        }
    }

    /** By the moon, as Gauss has it: 22 March and so many DAYS, for the years 1900 to 2099. */
    private static LocalDate easterOf(int year) {
        int d = (19 * (year % 19) + 24) % 30;
        int e = (2 * (year % 4) + 4 * (year % 7) + 6 * d + 5) % 7;
        int days = d + e;
        if (d == 29 && e == 6 || d == 28 && e == 6 && year % 19 > 10) {
            days -= 7;
        }
        return LocalDate.of(year, 3, 22).plusDays(days);
    }

    /** DUE, or NONE when it is OVER. */
    private static int due(long day) {
        for (long at = day; at <= LAST; at++) {
            if (Model.dateOf(at).getDayOfWeek().getValue() < 6 && !holidays.contains(at)) {
                return (int) at;
            }
        }
        return NONE;
    }

    /** A DAY and months, or NONE when it is OVER. */
    private static int later(int day, int months) {
        long found = Model.dayOf(Model.dateOf(day).plusMonths(months));
        return found > LAST ? NONE : (int) found;
    }

    private static void passes(int day) {
        today = day;
        int many = 0;
        for (Decision decision : decisions) {
            if (decision.stands == OPEN && decision.ends < today) {
                decision.stands = FINAL;
                many++;
            }
        }
        for (Booking booking : bookings) {
            int until = later(Math.max(booking.due, booking.latest), bar);
            if (booking.open > 0 && until != NONE && until < today) {
                booking.barred = true;
            }
        }
        answer("pass", CHECK.house.pass(day), many);
    }

    private static long reckons(int person, int day) {
        model.steps = 0;
        long[] value = model.reckon(Check.TAX, null, person, day, today);
        return value == null ? Long.MIN_VALUE : value[0];
    }

    private static void decides(int person) {
        LocalDate month = Model.dateOf(Math.max(400, Math.min(LAST, today + next(120) - 100))).withDayOfMonth(1);
        int first = (int) Model.dayOf(month);
        int months = next(9) == 0 ? 24 : 1 + next(4);
        answer("decide", CHECK.house.decide(person, Check.TAX, first, months), takes(person, first, months));
    }

    private static int takes(int person, int first, int months) {
        if (later(first, months - 1) == NONE) {
            return RANGE;
        }
        if (decisions.size() == 30 || bookings.size() + months > 400) {
            return FULL;
        }
        Decision decision = new Decision();
        int month = later(today, 1);
        decision.ends = month == NONE ? NONE : due(month);
        if (decision.ends == NONE) {
            return OVER;
        }
        decision.person = person;
        decision.first = first;
        decision.taken = today;
        decision.amounts = new long[months];
        decision.dues = new int[months];
        for (int i = 0; i < months; i++) {
            decision.dues[i] = due(Math.max(later(first, i), today));
            if (decision.dues[i] == NONE) {
                return OVER;
            }
            decision.amounts[i] = reckons(person, later(first, i));
            if (decision.amounts[i] == Long.MIN_VALUE) {
                return -10 - model.failed[0];
            }
        }
        decisions.add(decision);
        for (int i = 0; i < months; i++) {
            books(person, decisions.size() - 1, i, decision.amounts[i], decision.dues[i], 0);
        }
        settles(person);
        return decisions.size() - 1;
    }

    private static void books(int person, int decision, int month, long cents, int due, int sort) {
        Booking booking = new Booking();
        booking.person = person;
        booking.decision = decision;
        booking.month = month;
        booking.cents = cents;
        booking.due = due;
        booking.sort = sort;
        booking.open = Math.max(0, cents);
        credit[person] += Math.max(0, -cents);
        bookings.add(booking);
    }

    private static void settles(int person) {
        while (credit[person] > 0) {
            Booking least = null;
            for (Booking booking : bookings) {
                if (booking.person == person && booking.open > 0 && !booking.barred && (least == null || booking.due < least.due)) {
                    least = booking;
                }
            }
            if (least == null) {
                return;
            }
            long goes = Math.min(least.open, credit[person]);
            least.open -= goes;
            credit[person] -= goes;
        }
    }

    private static int objects(int number) {
        if (number >= decisions.size()) {
            return NONE;
        }
        if (decisions.get(number).stands != OPEN) {
            return STATE;
        }
        decisions.get(number).stands = OBJECTED;
        return 1;
    }

    private static int answers(int number, boolean granted) {
        if (number >= decisions.size()) {
            return NONE;
        }
        Decision decision = decisions.get(number);
        if (decision.stands != OBJECTED) {
            return STATE;
        }
        int changed = granted ? revises(decision, number, true) : 0;
        decision.stands = changed >= 0 ? FINAL : OBJECTED;
        return changed;
    }

    private static int revises(Decision decision, int number, boolean answered) {
        int due = due(today);
        if (due == NONE) {
            return OVER;
        }
        long[] anew = decision.amounts.clone();
        for (int i = 0; i < anew.length; i++) {
            int first = later(decision.first, i);
            int until = later(first, limit);
            if (answered || until == NONE || until >= today) {
                anew[i] = reckons(decision.person, first);
                if (anew[i] == Long.MIN_VALUE) {
                    return -10 - model.failed[0];
                }
            }
        }
        List<long[]> coming = new ArrayList<>();
        int changed = 0;
        for (int i = 0; i < anew.length; i++) {
            long difference = anew[i] - decision.amounts[i];
            if (difference == 0 || difference < 0 && decision.stands == FINAL) {
                anew[i] = decision.amounts[i];
                continue;
            }
            changed++;
            coming.add(new long[] {i, difference, 1});
            long n = Model.fullMonths(decision.dues[i], today);
            if (difference > 0 && n > 0) {
                long cents = (2 * n * difference * over + under) / (2 * under);
                coming.add(new long[] {i, cents, 2});
                if (n * difference > MOST_MONEY || cents > MOST_MONEY) {
                    return OVER;
                }
            }
            if (Math.abs(difference) > MOST_MONEY) {
                return OVER;
            }
        }
        if (bookings.size() + coming.size() > 400) {
            return FULL;
        }
        decision.amounts = anew;
        for (long[] one : coming) {
            books(decision.person, number, (int) one[0], one[1], due, (int) one[2]);
        }
        settles(decision.person);
        return changed;
    }

    private static void pays(int person) {
        long cents = next(7) == 0 ? MOST_MONEY : 1 + next(60000);
        credit[person] += cents;
        settles(person);
        answer("pay", CHECK.house.pay(person, cents), credit[person]);
    }

    private static int reminds(int person) {
        List<Booking> may = new ArrayList<>();
        for (Booking booking : bookings) {
            if (booking.person == person && booking.open > 0 && booking.sort != 3 && !booking.barred && booking.reminders < 3
                    && booking.due + 14 < today && (booking.latest == NONE || booking.latest + 14 < today)) {
                may.add(booking);
            }
        }
        if (may.isEmpty()) {
            return 0;
        }
        int due = due(today + 14);
        if (due == NONE) {
            return OVER;
        }
        if (bookings.size() + may.size() > 400) {
            return FULL;
        }
        for (Booking booking : may) {
            booking.reminders++;
            booking.latest = today;
            books(person, booking.decision, booking.month, (long) fee * booking.reminders, due, 3);
        }
        settles(person);
        return may.size();
    }

    /** All that can be seen of it. */
    private static void all() {
        StatuteHouse house = CHECK.house;
        CHECK.due("decisions", house.count(5), decisions.size());
        for (int i = 0; i < decisions.size(); i++) {
            Decision d = decisions.get(i);
            int[] want = {d.person, Check.TAX, d.first, d.amounts.length, d.stands, d.ends, d.taken};
            for (int what = 0; what < want.length; what++) {
                CHECK.due("decision " + i + ", " + what, house.decision(i, what), want[what]);
            }
            for (int month = 0; month < d.amounts.length; month++) {
                CHECK.due("amount " + i + ", " + month, house.amount(i, month), d.amounts[month]);
            }
        }
        CHECK.due("bookings", house.count(6), bookings.size());
        long[] sums = new long[4];
        int until = today + next(200) - 100;
        for (int i = 0; i < bookings.size(); i++) {
            Booking b = bookings.get(i);
            long[] want = {b.person, b.decision, b.month, b.cents, b.due, b.sort, b.open, b.reminders, b.latest, b.barred ? 1 : 0};
            for (int what = 0; what < want.length; what++) {
                CHECK.due("booking " + i + ", " + what, house.booking(i, what), want[what]);
            }
            sums[b.person] += b.due <= until ? b.cents : 0;
        }
        for (int person = 0; person < 4; person++) {
            CHECK.due("credit of " + person, house.credit(person), credit[person]);
            CHECK.due("account of " + person, house.account(person, until), sums[person]);
        }
    }
}
