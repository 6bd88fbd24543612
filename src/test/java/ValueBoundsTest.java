import java.time.LocalDate;
import java.time.temporal.ChronoUnit;

/** The bounds that "Terms" I names: DAYS, the KINDS of VALUES, DATES and SPANS, HOLIDAYS, WORKING DAYS. */
public final class ValueBoundsTest {
    private static final int TRUTH = 0;
    private static final int COUNT = 1;
    private static final int MONEY = 2;
    private static final int RATE = 3;
    private static final int DATE = 4;
    private static final int SPAN = 5;
    private static final int REAL = 6;
    private static final int OVER = 8;
    private static final int NOREAL = 9;
    private static final int RANGE = -2;
    private static final int FULL = -4;
    private static final int LAST = Check.LAST;
    private static final long MOST_MONEY = 1000000000000L;
    private static final Check CHECK = new Check();

    public static void main(String[] args) {
        days();
        everyDay();
        datesInTexts();
        comparisons();
        sizes();
        counts();
        moneys();
        rates();
        spans();
        reals();
        near();
        datesAndSpans();
        monthsBeyond();
        holidays();
        holidaysByYears();
        easters();
        workingDays();
        CHECK.end("ValueBoundsTest");
    }

    private static void days() {
        CHECK.furnished(1);
        StatuteHouse house = CHECK.house;
        CHECK.due("today at first", house.count(0), 36524);
        CHECK.value("day on 1900-01-01", DATE, 0, 0);
        CHECK.value("weekday(1900-01-01)", COUNT, 1, 0);
        CHECK.value("day on 2079-06-06", DATE, 65535, 0);
        CHECK.value("day on 2000-01-01", DATE, 36524, 0);
        for (int day : new int[] {0, 1, LAST - 1, LAST}) {
            CHECK.feed("day");
            CHECK.due("ask on " + day, house.ask(0, 1, day, day), DATE);
            CHECK.due("is " + day, house.value(0), day);
            CHECK.due("fact", house.fact(1, Check.BIRTH, day, 0, day, day) > 0 ? 1 : 0, 1);
            CHECK.due("reckon", house.reckon(0, Check.SHARE, 1, day, day), RATE);
            CHECK.due("write", house.write(0, day, day), 0);
            CHECK.due("ring", house.ring(0, day), -1);
            CHECK.due("gaps", house.gaps(0, Check.TAX, day), 1);
            CHECK.due("differ", house.differ(0, day, day, 1, day, day), 0);
            CHECK.due("measure", house.measure(0, -1, Check.TAX, day), 0);
            CHECK.due("changes", house.changes(0, Check.SHARE, 1, day, day, day), 1);
        }
        // every DAY is the one that other calendars have, too
        for (int day = 0; day <= LAST; day += 61) {
            LocalDate date = LocalDate.of(1900, 1, 1).plus(day, ChronoUnit.DAYS);
            CHECK.due("date " + date, CHECK.ask(date.toString()), DATE);
            CHECK.due("day of " + date, house.value(0), day);
        }
    }

    /** On each DAY that there is: its year, month and day, its weekday, whether it is a WORKING DAY. */
    private static void everyDay() {
        CHECK.furnished(1);
        CHECK.due("law", CHECK.enact(0, "article 1 from 1900-01-01 { kids is yearof(day) * 10000 + monthof(day) * 100 + dayof(day);"
                + " tax is 0.01 * weekday(day); yes is working(day); when_due is first(day); }"), 1);
        CHECK.due("holidays", CHECK.holidays("1 1; 31 12; easter plus 1; first friday of 9; last monday of 5;"), 5);
        StatuteHouse house = CHECK.house;
        LocalDate date = LocalDate.of(1900, 1, 1);
        for (int day = 0; day <= LAST; day++) {
            int wrong = house.reckon(0, Check.KIDS, 1, day, LAST) == COUNT
                    && house.value(0) == date.getYear() * 10000 + date.getMonthValue() * 100 + date.getDayOfMonth() ? 0 : 1;
            wrong |= house.reckon(0, Check.TAX, 1, day, LAST) == MONEY && house.value(0) == date.getDayOfWeek().getValue() ? 0 : 2;
            boolean open = house.due(day, 0, 0) == day;
            wrong |= house.reckon(0, Check.YES, 1, day, LAST) == TRUTH && house.value(0) == (open ? 1 : 0) ? 0 : 4;
            wrong |= house.reckon(0, Check.WHEN_DUE, 1, day, LAST) == DATE
                    && house.value(0) == day - date.getDayOfMonth() + 1 ? 0 : 8;
            LocalDate last = date.withDayOfMonth(date.lengthOfMonth());
            LocalDate friday = LocalDate.of(date.getYear(), 9, 1);
            friday = friday.plusDays((12 - friday.getDayOfWeek().getValue()) % 7);
            LocalDate monday = LocalDate.of(date.getYear(), 5, 31);
            monday = monday.minusDays(monday.getDayOfWeek().getValue() - 1);
            boolean closed = date.getDayOfWeek().getValue() > 5 || date.getDayOfYear() == 1
                    || last.equals(date) && date.getMonthValue() == 12 || date.equals(easterOf(date.getYear()).plusDays(1))
                    || date.equals(friday) || date.equals(monday);
            wrong |= open == closed ? 16 : 0;
            CHECK.due("all of " + date, wrong, 0);
            date = date.plusDays(1);
        }
    }

    /** Of each KIND that has an order: two VALUES, the lesser first. */
    private static void comparisons() {
        CHECK.furnished(1);
        String[][] pairs = {{"1", "2"}, {"- 2", "- 1"}, {"1.00", "1.01"}, {"- 1.00", "0.00"}, {"33%", "34%"}, {"- 1%", "0%"},
            {"2000-01-01", "2000-01-02"}, {"real(1)", "real(2)"}, {"1", "101%"}, {"99%", "1"}, {"1 / 3", "1 / 2"}, {"- 1 / 2", "- 1 / 3"}};
        for (String[] pair : pairs) {
            String less = "(" + pair[0] + ") ";
            String more = " (" + pair[1] + ")";
            int[] lessMore = {1, 1, 0, 0, 0, 1};
            int[] moreLess = {0, 0, 1, 1, 0, 1};
            int[] alike = {0, 1, 0, 1, 1, 0};
            String[] signs = {"<", "<=", ">", ">=", "=", "#"};
            for (int i = 0; i < 6; i++) {
                CHECK.value(less + signs[i] + more, TRUTH, lessMore[i], 0);
                CHECK.value(more + signs[i] + less, TRUTH, moreLess[i], 0);
                CHECK.value(less + signs[i] + less, TRUTH, alike[i], 0);
            }
        }
        for (String[] pair : new String[][] {{"true", "false"}, {"self", "state"}, {"1 days", "1 months"}, {"1 days", "2 days"},
            {"1 months + 1 days", "1 months + 2 days"}, {"2 months + 1 days", "1 months + 1 days"}}) {
            CHECK.value(pair[0] + " = (" + pair[1] + ")", TRUTH, 0, 0);
            CHECK.value(pair[0] + " # (" + pair[1] + ")", TRUTH, 1, 0);
            CHECK.value(pair[0] + " = (" + pair[0] + ")", TRUTH, 1, 0);
            CHECK.value(pair[0] + " # (" + pair[0] + ")", TRUTH, 0, 0);
        }
    }

    /** What is not below 0 is its own size, whatever was worked out ahead. */
    private static void sizes() {
        CHECK.furnished(1);
        CHECK.value("1 / 3", RATE, 1, 3);
        CHECK.value("size(3)", COUNT, 3, 0);
        CHECK.value("size(0)", COUNT, 0, 0);
        CHECK.value("size(2.00)", MONEY, 200, 0);
        CHECK.value("size(0.00)", MONEY, 0, 0);
        CHECK.value("size(75%)", RATE, 3, 4);
        CHECK.value("size(0%)", RATE, 0, 1);
        CHECK.value("size(real(3))", REAL, Check.bits(3.0), 0);
        CHECK.value("1 / 3", RATE, 1, 3);
        CHECK.value("size(- 3)", COUNT, 3, 0);
        CHECK.value("size(- 2.00)", MONEY, 200, 0);
        CHECK.value("size(- 75%)", RATE, 3, 4);
        CHECK.value("size(- real(3))", REAL, Check.bits(3.0), 0);
        CHECK.value("1 / 3", RATE, 1, 3);
        CHECK.value("3 rem 2", COUNT, 1, 0);
        CHECK.value("1 / 3", RATE, 1, 3);
        CHECK.value("least(3, 2)", COUNT, 2, 0);
        CHECK.value("1 / 3", RATE, 1, 3);
        CHECK.value("2000-01-01 + 1 days", DATE, 36525, 0);
        CHECK.value("1 / 3", RATE, 1, 3);
        CHECK.value("up(1.00, 0.30)", MONEY, 120, 0);
    }

    private static void datesInTexts() {
        CHECK.furnished(1);
        int[][] ends = {{1900, 2, 28}, {1904, 2, 29}, {2000, 2, 29}, {2001, 2, 28}, {2000, 1, 31}, {2000, 4, 30},
            {2000, 12, 31}, {2079, 5, 31}};
        for (int[] end : ends) {
            String month = String.format("%04d-%02d-", end[0], end[1]);
            CHECK.due("last of " + month, CHECK.ask(month + end[2]), DATE);
            CHECK.due("behind it", CHECK.ask(month + (end[2] + 1)), -1);
            CHECK.due("is out of range", CHECK.house.fault(0), 3);
            CHECK.value("date(" + end[0] + ", " + end[1] + ", " + end[2] + ")", DATE, Check.day(end[0], end[1], end[2]), 0);
            CHECK.fails("date(" + end[0] + ", " + end[1] + ", " + (end[2] + 1) + ")", OVER);
        }
        for (String none : new String[] {"1899-12-31", "2079-06-07", "2000-00-01", "2000-13-01", "2000-01-00", "2000-01-32",
            "0000-01-01", "9999-12-31"}) {
            CHECK.due(none, CHECK.ask(none), -1);
            CHECK.due(none + " is out of range", CHECK.house.fault(0), 3);
            CHECK.due(none + " at its place", CHECK.house.fault(1), 0);
        }
        for (String none : new String[] {"1899, 12, 31", "2079, 6, 7", "2000, 0, 1", "2000, 13, 1", "2000, 1, 0", "2000, 1, 32",
            "- 1, 1, 1", "2000, - 1, 1", "2000, 1, - 1", "0, 0, 0", "999999999, 999999999, 999999999"}) {
            CHECK.fails("date(" + none + ")", OVER);
        }
        CHECK.value("date(1900, 1, 1)", DATE, 0, 0);
        CHECK.value("date(2079, 6, 6)", DATE, LAST, 0);
    }

    /** Questions of a FACT that is one number ahead of a bound: what is less is fine, what is more is OVER. */
    private static void suppose(int name, long first, long second) {
        CHECK.due("suppose " + first, CHECK.house.suppose(1, name, first, second) > 0 ? 1 : 0, 1);
    }

    private static void counts() {
        CHECK.furnished(1);
        suppose(Check.N, 2147483647, 0);
        CHECK.value("n", COUNT, 2147483647, 0);
        CHECK.value("n + 0", COUNT, 2147483647, 0);
        CHECK.fails("n + 1", OVER);
        CHECK.value("- n", COUNT, -2147483647, 0);
        CHECK.value("- n - 1", COUNT, -2147483648, 0);
        CHECK.fails("- n - 2", OVER);
        CHECK.value("size(- n)", COUNT, 2147483647, 0);
        CHECK.fails("n * 2", OVER);
        CHECK.fails("n * n", OVER);
        CHECK.value("n * - 1", COUNT, -2147483647, 0);
        CHECK.value("n rem 2", COUNT, 1, 0);
        CHECK.fails("n * 100%", OVER);
        CHECK.fails("n + 1%", OVER);
        CHECK.value("n / n", RATE, 1, 1);
        CHECK.fails("n / 2", OVER);
        CHECK.fails("n / 1", OVER);
        CHECK.value("n > 1%", TRUTH, 1, 0);
        suppose(Check.N, -2147483648, 0);
        CHECK.value("n", COUNT, -2147483648, 0);
        CHECK.fails("n - 1", OVER);
        CHECK.fails("- n", OVER);
        CHECK.fails("size(n)", OVER);
        CHECK.fails("n * - 1", OVER);
        CHECK.fails("0 - n", OVER);
        CHECK.value("n + 1", COUNT, -2147483647, 0);
        CHECK.value("n rem - 1", COUNT, 0, 0);
        CHECK.value("n / n", RATE, 1, 1);

        CHECK.value("sum(n, parent)", COUNT, 0, 0);
        suppose(Check.PARENT, 1, 0);
        CHECK.value("sum(n, parent)", COUNT, -2147483648, 0);
        CHECK.fails("sum(n - 1, parent)", OVER);
        CHECK.fails("over(n, 2000-01-01, 2000-02-01)", OVER);
        CHECK.value("over(n, 2000-01-01, 2000-01-31)", COUNT, -2147483648, 0);
    }

    private static void moneys() {
        CHECK.furnished(1);
        suppose(Check.PAY, MOST_MONEY, 0);
        CHECK.value("pay", MONEY, MOST_MONEY, 0);
        CHECK.value("pay + 0.00", MONEY, MOST_MONEY, 0);
        CHECK.fails("pay + 0.01", OVER);
        CHECK.value("- pay", MONEY, -MOST_MONEY, 0);
        CHECK.fails("- pay - 0.01", OVER);
        CHECK.value("size(- pay)", MONEY, MOST_MONEY, 0);
        CHECK.value("pay * 1", MONEY, MOST_MONEY, 0);
        CHECK.value("pay * - 1", MONEY, -MOST_MONEY, 0);
        CHECK.fails("pay * 2", OVER);
        CHECK.fails("999999999 * pay", OVER);
        CHECK.fails("- 999999999 * pay", OVER);
        suppose(Check.PAY, 1L << 33, 0);
        suppose(Check.N, -(1L << 31), 0);
        // a product of -2^64, of which the machine's own numbers would leave 0
        CHECK.fails("pay * n", OVER);
        CHECK.fails("n * pay", OVER);
        suppose(Check.PAY, MOST_MONEY, 0);
        suppose(Check.PART, 999999, 1000000);
        CHECK.value("pay * part", MONEY, 999999000000L, 0);
        CHECK.value("part * pay", MONEY, 999999000000L, 0);
        CHECK.value("pay / (1 / part)", MONEY, 999999000000L, 0);
        CHECK.value("pay * 100%", MONEY, MOST_MONEY, 0);
        CHECK.fails("pay * 101%", OVER);
        CHECK.fails("pay * 10000%", OVER);
        CHECK.value("pay / 100%", MONEY, MOST_MONEY, 0);
        CHECK.fails("pay / 99%", OVER);
        CHECK.value("pay / - 1", MONEY, -MOST_MONEY, 0);
        CHECK.value("pay / pay", RATE, 1, 1);
        CHECK.value("pay / 1000000.00", RATE, 10000, 1);
        CHECK.value("pay / 10000.00", RATE, 1000000, 1);
        CHECK.fails("pay / 9999.99", OVER);
        CHECK.fails("0.01 / pay", OVER);
        CHECK.value("pay rem 0.03", MONEY, 1, 0);
        CHECK.value("up(pay, 0.01)", MONEY, MOST_MONEY, 0);
        CHECK.fails("up(pay, 0.03)", OVER);
        CHECK.value("down(pay, 0.03)", MONEY, MOST_MONEY - 1, 0);
        CHECK.fails("down(- pay, 0.03)", OVER);
        CHECK.value("near(pay, 0.03)", MONEY, MOST_MONEY - 1, 0);
        CHECK.value("near(pay, pay)", MONEY, MOST_MONEY, 0);
        CHECK.value("even(pay - 0.01, pay)", MONEY, MOST_MONEY, 0);
        CHECK.value("real(pay)", REAL, Check.bits(1e10), 0);
        CHECK.value("cents(real(pay))", MONEY, MOST_MONEY, 0);
        suppose(Check.PAY, -MOST_MONEY, 0);
        CHECK.value("pay", MONEY, -MOST_MONEY, 0);
        CHECK.fails("pay - 0.01", OVER);
        CHECK.value("cents(real(pay))", MONEY, -MOST_MONEY, 0);
        suppose(Check.PARENT, 1, 0);
        CHECK.value("sum(pay, parent)", MONEY, -MOST_MONEY, 0);
        CHECK.fails("over(pay, 2000-01-01, 2000-02-01)", OVER);
    }

    private static void rates() {
        CHECK.furnished(1);
        suppose(Check.PART, 1000000, 1);
        CHECK.value("part", RATE, 1000000, 1);
        CHECK.value("part * 1", RATE, 1000000, 1);
        CHECK.fails("part + 1", OVER);
        CHECK.fails("part + 1%", OVER);
        CHECK.value("- part", RATE, -1000000, 1);
        CHECK.fails("- part - 1", OVER);
        CHECK.value("1 / part", RATE, 1, 1000000);
        CHECK.fails("1 / part / 2", OVER);
        CHECK.fails("part * 101%", OVER);
        CHECK.value("part / part", RATE, 1, 1);
        CHECK.value("whole(part)", COUNT, 1000000, 0);
        CHECK.value("real(part)", REAL, Check.bits(1e6), 0);
        suppose(Check.PART, 999999, 1000000);
        CHECK.value("part", RATE, 999999, 1000000);
        CHECK.value("1 - part", RATE, 1, 1000000);
        CHECK.fails("part + 1", OVER);
        CHECK.value("part + (1 - part)", RATE, 1, 1);
        CHECK.fails("part * part", OVER);
        CHECK.value("part < 1", TRUTH, 1, 0);
        CHECK.value("size(- part)", RATE, 999999, 1000000);
        CHECK.value("whole(part)", COUNT, 0, 0);
        suppose(Check.PART, -1000000000000L, 1000000000000L);
        CHECK.value("part", RATE, -1, 1);
        suppose(Check.PART, 1000000000000L, 1000000);
        CHECK.value("part", RATE, 1000000, 1);
        suppose(Check.PART, 1000000, 1000000000000L);
        CHECK.value("part", RATE, 1, 1000000);
        suppose(Check.PART, 0, 1000000000000L);
        CHECK.value("part", RATE, 0, 1);
        CHECK.value("0 / 999999999", RATE, 0, 1);
        CHECK.value("10000%", RATE, 100, 1);
    }

    private static void spans() {
        CHECK.furnished(1);
        suppose(Check.GONE, 2400, 65535);
        CHECK.value("gone", SPAN, 2400, 65535);
        CHECK.fails("gone + 1 days", OVER);
        CHECK.fails("gone + 1 months", OVER);
        CHECK.value("- gone", SPAN, -2400, -65535);
        CHECK.fails("- gone - 1 days", OVER);
        CHECK.fails("- gone - 1 months", OVER);
        CHECK.value("gone * - 1", SPAN, -2400, -65535);
        CHECK.fails("gone * 2", OVER);
        CHECK.fails("999999999 * gone", OVER);
        CHECK.value("gone * 0", SPAN, 0, 0);
        CHECK.value("gone - gone", SPAN, 0, 0);
        suppose(Check.GONE, 1200, 32767);
        CHECK.value("gone * 2", SPAN, 2400, 65534);
        CHECK.value("2 * gone + 1 days", SPAN, 2400, 65535);
        suppose(Check.GONE, 1201, 0);
        CHECK.fails("gone * 2", OVER);
        suppose(Check.GONE, 0, 32768);
        CHECK.fails("gone * 2", OVER);
        CHECK.value("gone * - 1", SPAN, 0, -32768);
        CHECK.value("2079-06-06 - 1900-01-01", SPAN, 0, 65535);
        CHECK.value("1900-01-01 - 2079-06-06", SPAN, 0, -65535);
        CHECK.value("daysto(2079-06-06, 1900-01-01)", COUNT, -65535, 0);
        CHECK.value("fullmonths(1900-01-01, 2079-06-06)", COUNT, 2153, 0);
    }

    private static void real(double number) {
        suppose(Check.ODD, Check.bits(number), 0);
    }

    private static void reals() {
        CHECK.furnished(1);
        real(Double.MAX_VALUE);
        CHECK.value("odd", REAL, Check.bits(Double.MAX_VALUE), 0);
        CHECK.value("- odd", REAL, Check.bits(-Double.MAX_VALUE), 0);
        CHECK.value("odd + real(1)", REAL, Check.bits(Double.MAX_VALUE), 0);
        CHECK.value("- odd - real(1)", REAL, Check.bits(-Double.MAX_VALUE), 0);
        CHECK.fails("odd + odd", NOREAL);
        CHECK.fails("- odd - odd", NOREAL);
        CHECK.fails("odd * odd", NOREAL);
        CHECK.fails("odd / real(50%)", NOREAL);
        CHECK.value("odd - odd", REAL, 0, 0);
        CHECK.value("size(- odd)", REAL, Check.bits(Double.MAX_VALUE), 0);
        CHECK.fails("cents(odd)", OVER);
        CHECK.fails("cents(- odd)", OVER);
        CHECK.fails("whole(- odd)", OVER);
        CHECK.fails("over(odd, 2000-01-01, 2000-02-01)", NOREAL);
        // the least number that overflows to the even side, and the one ahead of it
        real(Math.ulp(Double.MAX_VALUE) / 2);
        CHECK.due("suppose", CHECK.house.suppose(0, Check.ODD, Check.bits(Double.MAX_VALUE), 0), 2);
        CHECK.fails("odd of state + odd", NOREAL);
        real(Math.nextDown(Math.ulp(Double.MAX_VALUE) / 2));
        CHECK.value("odd of state + odd", REAL, Check.bits(Double.MAX_VALUE), 0);
        real(Double.MIN_VALUE);
        CHECK.value("odd / real(2)", REAL, 0, 0);
        CHECK.value("- odd / real(2)", REAL, Check.bits(-0.0), 0);
        CHECK.value("odd / real(2) = real(0)", TRUTH, 1, 0);
        CHECK.value("odd * real(3 / 2)", REAL, Check.bits(Double.MIN_VALUE * 1.5), 0);
        CHECK.value("root(odd)", REAL, Check.bits(Math.sqrt(Double.MIN_VALUE)), 0);
        CHECK.fails("root(- odd)", NOREAL);
        CHECK.value("root(- real(0))", REAL, Check.bits(-0.0), 0);
        CHECK.value("cents(odd)", MONEY, 0, 0);
        real(2147483647.999);
        CHECK.value("whole(odd)", COUNT, 2147483647, 0);
        real(2147483648.0);
        CHECK.fails("whole(odd)", OVER);
        real(-2147483648.999);
        CHECK.value("whole(odd)", COUNT, -2147483648, 0);
        real(-2147483649.0);
        CHECK.fails("whole(odd)", OVER);
        real(10000000000.004);
        CHECK.value("cents(odd)", MONEY, MOST_MONEY, 0);
        real(10000000000.006);
        CHECK.fails("cents(odd)", OVER);
        real(-10000000000.006);
        CHECK.fails("cents(odd)", OVER);
    }

    /** NEAR: halves away from 0; what is less than a half towards it. */
    private static void near() {
        CHECK.furnished(1);
        CHECK.value("0.01 * 49%", MONEY, 0, 0);
        CHECK.value("0.01 * 50%", MONEY, 1, 0);
        CHECK.value("- 0.01 * 49%", MONEY, 0, 0);
        CHECK.value("- 0.01 * 50%", MONEY, -1, 0);
        CHECK.value("0.01 / 2", MONEY, 1, 0);
        CHECK.value("0.01 / 3", MONEY, 0, 0);
        CHECK.value("0.02 / 3", MONEY, 1, 0);
        CHECK.value("0.01 / - 2", MONEY, -1, 0);
        CHECK.value("- 0.01 / - 2", MONEY, 1, 0);
        CHECK.value("0.03 * (1 / 2)", MONEY, 2, 0);
        CHECK.value("0.03 * (- 1 / 2)", MONEY, -2, 0);
        CHECK.value("(1 / 2) * 0.05", MONEY, 3, 0);
        CHECK.value("0.05 / (2 / 1)", MONEY, 3, 0);
    }

    private static void shifted(int from, int months, int days, int want) {
        suppose(Check.GONE, months, days);
        suppose(Check.BIRTH, from, 0);
        String what = from + " and " + months + " months " + days + " days";
        int answer = CHECK.ask("birth + gone");
        CHECK.due(what, answer == DATE ? CHECK.house.value(0) : answer, want < 0 ? -10 - OVER : want);
        suppose(Check.GONE, -months, -days);
        answer = CHECK.ask("birth - gone");
        CHECK.due("less: " + what, answer == DATE ? CHECK.house.value(0) : answer, want < 0 ? -10 - OVER : want);
    }

    private static void datesAndSpans() {
        CHECK.furnished(1);
        shifted(0, 0, 0, 0);
        shifted(0, 0, -1, -1);
        shifted(LAST, 0, 0, LAST);
        shifted(LAST, 0, 1, -1);
        shifted(0, 0, LAST, LAST);
        shifted(LAST, 0, -65535, 0);
        shifted(Check.day(2000, 1, 31), 1, 0, Check.day(2000, 2, 29));
        shifted(Check.day(2000, 1, 30), 1, 0, Check.day(2000, 2, 29));
        shifted(Check.day(2000, 1, 29), 1, 0, Check.day(2000, 2, 29));
        shifted(Check.day(2000, 1, 28), 1, 0, Check.day(2000, 2, 28));
        shifted(Check.day(2001, 1, 29), 1, 0, Check.day(2001, 2, 28));
        shifted(Check.day(2000, 3, 31), -1, 0, Check.day(2000, 2, 29));
        shifted(Check.day(2000, 3, 31), 1, 0, Check.day(2000, 4, 30));
        shifted(Check.day(2000, 12, 31), 2, 0, Check.day(2001, 2, 28));
        shifted(Check.day(2000, 1, 31), 13, 0, Check.day(2001, 2, 28));
        shifted(Check.day(2000, 1, 31), 1, 1, Check.day(2000, 3, 1));
        shifted(Check.day(2000, 3, 31), -1, -29, Check.day(2000, 1, 31));
        shifted(0, -1, 0, -1);
        shifted(0, -1, 30, -1);
        shifted(0, -1, 31, 0);
        shifted(LAST, 1, 0, -1);
        shifted(LAST, 1, -29, -1);
        shifted(LAST, 1, -30, LAST);
        shifted(Check.day(2079, 5, 6), 1, 0, LAST);
        shifted(Check.day(2079, 5, 7), 1, 0, -1);
    }

    /** Only the end must be a DAY, but MONTHS that lead out of the years 1800 .. 2200 are OVER at once. */
    private static void monthsBeyond() {
        int toFirst = (int) ChronoUnit.DAYS.between(LocalDate.of(1800, 1, 1), LocalDate.of(1900, 1, 1));
        shifted(0, -1200, toFirst, 0);
        shifted(0, -1200, toFirst - 1, -1);
        shifted(0, -1201, 65535, -1);
        int toLast = (int) ChronoUnit.DAYS.between(LocalDate.of(2079, 6, 6), LocalDate.of(2200, 12, 6));
        shifted(LAST, 1458, -toLast, LAST);
        shifted(LAST, 1458, -toLast + 1, -1);
        shifted(LAST, 1459, -65535, -1);
        shifted(LAST, 1459, -toLast - 31, -1);
        shifted(LAST, 2400, -65535, -1);
        shifted(0, -2400, 65535, -1);
        StatuteHouse house = CHECK.house;
        CHECK.due("due of that", house.due(0, -1200, toFirst), 0);
        CHECK.due("due beyond", house.due(0, -1201, 65535), FULL);
        CHECK.due("due of the last", house.due(LAST, 1458, -toLast), LAST);
        CHECK.due("due beyond that", house.due(LAST, 1459, -65535), FULL);
        CHECK.due("most months that can be", house.due(0, 2400, 0), FULL);
        CHECK.due("more can't be", house.due(0, 2401, 0), RANGE);
        CHECK.due("least months that can be", house.due(0, -2400, 0), FULL);
        CHECK.due("fewer can't be", house.due(0, -2401, 0), RANGE);
        CHECK.due("most days that can be", house.due(1, 0, 65535), FULL);
        CHECK.due("more can't be", house.due(1, 0, 65536), RANGE);
        CHECK.due("least days that can be", house.due(65534, 0, -65535), FULL);
        CHECK.due("fewer can't be", house.due(65535, 0, -65536), RANGE);
    }

    private static void refusedHoliday(String marked, int kind) {
        CHECK.due(marked, CHECK.holidays(marked.replace("@", "")), -1);
        CHECK.due(marked + " kind", CHECK.house.fault(0), kind);
        CHECK.due(marked + " place", CHECK.house.fault(1), marked.indexOf('@'));
        CHECK.due(marked + " stays", CHECK.house.count(7), 20);
        CHECK.due(marked + " stays closed", CHECK.house.due(Check.day(2001, 1, 1), 0, 0), Check.day(2001, 1, 2));
    }

    private static void holidays() {
        CHECK.fresh();
        CHECK.due("none at first", CHECK.house.count(7), 0);
        CHECK.due("twenty", CHECK.holidays("1 1; ".repeat(20)), 20);
        refusedHoliday("1 1; ".repeat(20) + "@1 1;", 4);
        refusedHoliday("1 1; ".repeat(20) + "@easter;", 4);
        refusedHoliday("@0 1;", 3);
        refusedHoliday("@32 1;", 3);
        refusedHoliday("1 @0;", 3);
        refusedHoliday("1 @13;", 3);
        refusedHoliday("30 @2;", 3);
        refusedHoliday("31 @4;", 3);
        refusedHoliday("31 @6;", 3);
        refusedHoliday("31 @9;", 3);
        refusedHoliday("31 @11;", 3);
        refusedHoliday("easter plus @101;", 3);
        refusedHoliday("easter minus @101;", 3);
        refusedHoliday("first monday of @0;", 3);
        refusedHoliday("first monday of @13;", 3);
        refusedHoliday("last sunday of @13;", 3);
        refusedHoliday("easter minus @- 1;", 1);
        refusedHoliday("easter@", 1);
        int[] lengths = {31, 29, 31, 30, 31, 30, 31, 31, 30, 31, 30, 31};
        for (int month = 1; month <= 12; month++) {
            CHECK.due("last of " + month, CHECK.holidays(lengths[month - 1] + " " + month + ";"), 1);
            CHECK.due("weekdays of " + month, CHECK.holidays("first monday of " + month + "; last sunday of " + month + ";"), 2);
        }
        CHECK.due("easter", CHECK.holidays("easter plus 0; easter minus 0; easter plus 100; easter minus 100;"), 4);
        CHECK.due("none", CHECK.holidays(""), 0);
    }

    private static boolean isClosed(LocalDate date) {
        int day = Check.day(date.getYear(), date.getMonthValue(), date.getDayOfMonth());
        return CHECK.house.due(day, 0, 0) != day;
    }

    private static void holidaysByYears() {
        CHECK.fresh();
        CHECK.due("29 February", CHECK.holidays("29 2;"), 1);
        for (int year = 1900; year <= 2079; year++) {
            LocalDate end = LocalDate.of(year, 2, 1).plusMonths(1).minusDays(1);
            boolean weekend = end.getDayOfWeek().getValue() > 5;
            CHECK.due("end of February " + year, isClosed(end) ? 1 : 0, end.getDayOfMonth() == 29 || weekend ? 1 : 0);
            LocalDate march = end.plusDays(1);
            CHECK.due("1 March " + year, isClosed(march) ? 1 : 0, march.getDayOfWeek().getValue() > 5 ? 1 : 0);
        }
        String[] weekdays = {"monday", "tuesday", "wednesday", "thursday", "friday"};
        for (int weekday = 0; weekday < 5; weekday++) {
            CHECK.due("weekday", CHECK.holidays("first " + weekdays[weekday] + " of 2; last " + weekdays[weekday] + " of 3;"), 2);
            for (int year = 1995; year <= 2010; year++) {
                LocalDate first = LocalDate.of(year, 2, 1);
                while (first.getDayOfWeek().getValue() != weekday + 1) {
                    first = first.plusDays(1);
                }
                LocalDate last = LocalDate.of(year, 3, 31);
                while (last.getDayOfWeek().getValue() != weekday + 1) {
                    last = last.minusDays(1);
                }
                CHECK.due("first of " + year, isClosed(first) ? 1 : 0, 1);
                CHECK.due("second of " + year, isClosed(first.plusDays(7)) ? 1 : 0, 0);
                CHECK.due("last of " + year, isClosed(last) ? 1 : 0, 1);
                CHECK.due("last but one of " + year, isClosed(last.minusDays(7)) ? 1 : 0, 0);
            }
        }
    }

    /** Easter by the old tables' golden number and epact, to be held against the document's formula. */
    private static LocalDate easterOf(int year) {
        int golden = year % 19 + 1;
        int century = year / 100 + 1;
        int dropped = 3 * century / 4 - 12;
        int moon = (8 * century + 5) / 25 - 5;
        int sunday = 5 * year / 4 - dropped - 10;
        int epact = Math.floorMod(11 * golden + 20 + moon - dropped, 30);
        if (epact == 25 && golden > 11 || epact == 24) {
            epact++;
        }
        int full = 44 - epact;
        full += full < 21 ? 30 : 0;
        full += 7 - (sunday + full) % 7;
        return LocalDate.of(year, 3, 1).plusDays(full - 1);
    }

    private static void easters() {
        CHECK.fresh();
        CHECK.due("Easter Monday", CHECK.holidays("easter plus 1;"), 1);
        for (int year = 1900; year < 2080; year++) {
            LocalDate monday = easterOf(year).plusDays(1);
            CHECK.due("Easter Monday " + year, isClosed(monday) ? 1 : 0, 1);
            CHECK.due("the Monday ahead " + year, isClosed(monday.minusDays(7)) ? 1 : 0, 0);
            CHECK.due("the Tuesday " + year, isClosed(monday.plusDays(1)) ? 1 : 0, 0);
        }
        // Easter 2008 is 23 March: 82 DAYS ahead is 1 January, 83 DAYS ahead lies in the year ahead, which has its own
        CHECK.due("as far as the year goes", CHECK.holidays("easter minus 82;"), 1);
        CHECK.due("1 January 2008", isClosed(LocalDate.of(2008, 1, 1)) ? 1 : 0, 1);
        CHECK.due("farther", CHECK.holidays("easter minus 83;"), 1);
        CHECK.due("31 December 2007", isClosed(LocalDate.of(2007, 12, 31)) ? 1 : 0, 0);
        CHECK.due("farthest", CHECK.holidays("easter plus 100;"), 1);
        CHECK.due("100 days from Easter 2008", isClosed(LocalDate.of(2008, 7, 1)) ? 1 : 0, 1);
    }

    private static void workingDays() {
        CHECK.fresh();
        StatuteHouse house = CHECK.house;
        CHECK.due("the last is a Tuesday", house.due(LAST, 0, 0), LAST);
        CHECK.due("the weekend ahead", house.due(LAST - 3, 0, 0), LAST - 1);
        CHECK.due("closed", CHECK.holidays("6 6;"), 1);
        CHECK.due("the Monday", house.due(LAST - 1, 0, 0), LAST - 1);
        CHECK.due("over without one", house.due(LAST, 0, 0), FULL);
        CHECK.due("closed, too", CHECK.holidays("6 6; 5 6;"), 2);
        CHECK.due("over from the Saturday on", house.due(LAST - 3, 0, 0), FULL);
        CHECK.due("the Friday", house.due(LAST - 4, 0, 0), LAST - 4);
        CHECK.furnished(1);
        CHECK.value("working(1900-01-01)", TRUTH, 1, 0);
        CHECK.value("working(2079-06-06)", TRUTH, 1, 0);
        CHECK.value("due(1900-01-01)", DATE, 0, 0);
        CHECK.due("closed", CHECK.holidays("6 6; 5 6;"), 2);
        CHECK.fails("due(2079-06-03)", OVER);
        CHECK.value("due(2079-06-02)", DATE, LAST - 4, 0);
        CHECK.value("working(2079-06-06)", TRUTH, 0, 0);
        CHECK.due("some weeks", CHECK.holidays("3 1; 4 1; 5 1; 6 1; 7 1;"), 5);
        CHECK.value("due(2000-01-01)", DATE, Check.day(2000, 1, 10), 0);
        CHECK.value("last(2079-05-01)", DATE, Check.day(2079, 5, 31), 0);
        CHECK.fails("last(2079-06-01)", OVER);
        CHECK.value("first(2079-06-06)", DATE, Check.day(2079, 6, 1), 0);
        CHECK.value("first(1900-01-31)", DATE, 0, 0);
    }
}
