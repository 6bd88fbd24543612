/** What PARTS are (IV), asked of PERSON 1 on 1 January 2000. */
public final class PartsTest {
    private static final int TRUTH = 0;
    private static final int COUNT = 1;
    private static final int MONEY = 2;
    private static final int RATE = 3;
    private static final int DATE = 4;
    private static final int SPAN = 5;
    private static final int REAL = 6;
    private static final int PERSON = 7;
    private static final int NONE = 1;
    private static final int LONG = 5;
    private static final int UNKNOWN = 6;
    private static final int ZERO = 7;
    private static final int OVER = 8;
    private static final int NOREAL = 9;
    private static final Check CHECK = new Check();

    public static void main(String[] args) {
        CHECK.furnished(4);
        truths();
        sums();
        products();
        divisions();
        dates();
        functionsOfDates();
        rounding();
        reals();
        realEdges();
        people();
        tables();
        sets();
        overs();
        CHECK.end("PartsTest");
    }

    private static void value(String text, int kind, long first) {
        CHECK.value(text, kind, first, 0);
    }

    private static void rate(String text, long over, long under) {
        CHECK.value(text, RATE, over, under);
    }

    private static void truths() {
        value("true or 1 / 0 = 1", TRUTH, 1);
        value("false and 1 / 0 = 1", TRUTH, 0);
        CHECK.fails("false or 1 / 0 = 1", ZERO);
        CHECK.fails("1 / 0 = 1 or true", ZERO);
        value("true or false and false", TRUTH, 1);
        value("not true or true", TRUTH, 1);
        value("not false and false", TRUTH, 0);
        value("true = false", TRUTH, 0);
        value("true # false", TRUTH, 1);
        value("1 = 100%", TRUTH, 1);
        value("50% < 1", TRUTH, 1);
        value("2 >= 200%", TRUTH, 1);
        value("33% > 34%", TRUTH, 0);
        value("12 months = 1 years", TRUTH, 1);
        value("30 days = 1 months", TRUTH, 0);
        value("1 days # 1 months", TRUTH, 1);
        value("self = state", TRUTH, 0);
        value("1999-12-31 < day", TRUTH, 1);
        value("1.00 <= 1.00", TRUTH, 1);
        value("if(true, 1, 1 rem 0)", COUNT, 1);
        value("if(false, 1 rem 0, 2)", COUNT, 2);
    }

    private static void sums() {
        value("2 + 3 - 10", COUNT, -5);
        value("999999999 * 2 + 147483649", COUNT, 2147483647);
        CHECK.fails("999999999 * 2 + 147483650", OVER);
        value("0 - 999999999 * 2 - 147483650", COUNT, -2147483648);
        CHECK.fails("- (0 - 999999999 * 2 - 147483650)", OVER);
        CHECK.fails("size(0 - 999999999 * 2 - 147483650)", OVER);
        value("1.00 - 2.50", MONEY, -150);
        value("999999999.99 * 10 + 0.10", MONEY, 1000000000000L);
        CHECK.fails("999999999.99 * 10 + 0.11", OVER);
        rate("1 + 50%", 3, 2);
        rate("50% - 1", -1, 2);
        rate("1% + 2%", 3, 100);
        rate("1 / 1000000", 1, 1000000);
        CHECK.fails("1 / 1000001", OVER);
        CHECK.fails("1 / 999999 + 1 / 999998", OVER);
        CHECK.value("2 months + 3 days - 1 months", SPAN, 1, 3);
        CHECK.fails("2400 months + 1 months", OVER);
        CHECK.fails("65535 days + 1 days", OVER);
        CHECK.value("- 3 months", SPAN, -3, 0);
        rate("- 25%", -1, 4);
        value("size(- 2.00)", MONEY, 200);
        rate("size(- 25%)", 1, 4);
        value("least(3, 2)", COUNT, 2);
        value("most(1.00, 2.00)", MONEY, 200);
        rate("least(1%, 2%)", 1, 100);
        value("most(day, 1999-01-01)", DATE, Check.TODAY);
    }

    private static void products() {
        value("6 * 7", COUNT, 42);
        CHECK.fails("999999999 * 3", OVER);
        rate("50% * 3", 3, 2);
        rate("3 * 50%", 3, 2);
        rate("50% * 50%", 1, 4);
        value("0.01 * 50%", MONEY, 1);
        value("- 0.01 * 50%", MONEY, -1);
        value("0.03 * 49%", MONEY, 1);
        value("3 * 1.05", MONEY, 315);
        value("33% * 1.00", MONEY, 33);
        CHECK.fails("999999999.99 * 999999999", OVER);
        CHECK.fails("999999999.99 * 1001%", OVER);
        CHECK.value("3 * (2 months + 1 days)", SPAN, 6, 3);
        CHECK.value("2 days * - 3", SPAN, 0, -6);
        CHECK.fails("2400 months * 2", OVER);
    }

    private static void divisions() {
        rate("6 / 4", 3, 2);
        rate("- 6 / 4", -3, 2);
        rate("6 / - 4", -3, 2);
        rate("50% / 25%", 2, 1);
        rate("1 / 50%", 2, 1);
        rate("50% / 2", 1, 4);
        value("1.00 / 3", MONEY, 33);
        value("0.05 / 2", MONEY, 3);
        value("- 0.05 / 2", MONEY, -3);
        value("1.00 / 50%", MONEY, 200);
        rate("1.00 / 4.00", 1, 4);
        value("7 rem 3", COUNT, 1);
        value("- 7 rem 3", COUNT, -1);
        value("7 rem - 3", COUNT, 1);
        value("1.00 rem 0.30", MONEY, 10);
        for (String zero : new String[] {"1 / 0", "1 / 0%", "1% / 0", "1.00 / 0", "1.00 / 0.00", "1.00 / 0%", "1 rem 0",
            "1.00 rem 0.00", "real(1) / real(0)", "real(1) rem real(0)", "real(1) / - real(0)"}) {
            CHECK.fails(zero, ZERO);
        }
        CHECK.fails("999999999.99 / 1%", OVER);
    }

    private static void dates() {
        value("2000-01-31 + 1 months", DATE, Check.day(2000, 2, 29));
        value("2001-01-31 + 1 months", DATE, Check.day(2001, 2, 28));
        value("2000-02-29 + 1 years", DATE, Check.day(2001, 2, 28));
        value("2000-03-31 - 1 months", DATE, Check.day(2000, 2, 29));
        value("2000-01-31 + (1 months + 1 days)", DATE, Check.day(2000, 3, 1));
        value("2000-03-31 - (1 months + 1 days)", DATE, Check.day(2000, 2, 28));
        // only the end must be a DAY
        value("1900-01-01 + (- 1200 months + 36525 days)", DATE, 1);
        CHECK.fails("1900-01-01 - 1201 months", OVER);
        CHECK.fails("1900-01-01 + (- 1201 months + 65535 days)", OVER);
        CHECK.fails("2079-06-06 + 1 days", OVER);
        CHECK.fails("1900-01-01 - 1 days", OVER);
        CHECK.value("day - 1999-12-01", SPAN, 0, 31);
        CHECK.value("1999-12-01 - day", SPAN, 0, -31);
        value("date(2000, 2, 29)", DATE, Check.day(2000, 2, 29));
        value("date(2079, 6, 6)", DATE, 65535);
        CHECK.fails("date(2001, 2, 29)", OVER);
        CHECK.fails("date(2079, 6, 7)", OVER);
        CHECK.fails("date(1899, 12, 31)", OVER);
        CHECK.fails("date(2000, 13, 1)", OVER);
        CHECK.fails("date(2000, 0, 1)", OVER);
        CHECK.fails("date(2000, 1, 0)", OVER);
        CHECK.fails("date(999999999, 1, 1)", OVER);
    }

    private static void functionsOfDates() {
        value("fullmonths(2000-01-31, 2000-02-29)", COUNT, 1);
        value("fullmonths(2000-01-31, 2000-02-28)", COUNT, 0);
        value("fullmonths(2000-01-15, 2001-03-14)", COUNT, 13);
        value("fullmonths(2001-03-14, 2000-01-15)", COUNT, -13);
        value("fullyears(1980-02-29, 2001-02-28)", COUNT, 21);
        value("fullyears(1980-02-29, 2001-02-27)", COUNT, 20);
        value("fullyears(2001-02-28, 1980-02-29)", COUNT, -21);
        value("fullmonths(2079-05-30, 2079-06-06)", COUNT, 0);
        value("daysto(1999-12-31, day)", COUNT, 1);
        value("daysto(day, 1999-12-31)", COUNT, -1);
        value("first(2000-02-29)", DATE, Check.day(2000, 2, 1));
        value("last(2000-02-01)", DATE, Check.day(2000, 2, 29));
        CHECK.fails("last(2079-06-01)", OVER);
        value("yearof(2079-06-06)", COUNT, 2079);
        value("monthof(1999-12-31)", COUNT, 12);
        value("dayof(1999-12-31)", COUNT, 31);
        value("weekday(1900-01-01)", COUNT, 1);
        value("weekday(2000-01-02)", COUNT, 7);
        value("working(2000-01-03)", TRUTH, 1);
        value("working(2000-01-01)", TRUTH, 0);
        value("due(2000-01-01)", DATE, Check.day(2000, 1, 3));
        CHECK.due("holidays", CHECK.holidays("3 1; 6 6;"), 2);
        value("working(2000-01-03)", TRUTH, 0);
        value("due(2000-01-01)", DATE, Check.day(2000, 1, 4));
        CHECK.fails("due(2079-06-06)", OVER);
        CHECK.due("no holidays", CHECK.holidays(""), 0);
    }

    private static void rounding() {
        value("up(1.01, 0.10)", MONEY, 110);
        value("up(1.10, 0.10)", MONEY, 110);
        value("up(- 1.01, 0.10)", MONEY, -100);
        value("down(1.09, 0.10)", MONEY, 100);
        value("down(- 1.01, 0.10)", MONEY, -110);
        value("near(1.05, 0.10)", MONEY, 110);
        value("near(1.04, 0.10)", MONEY, 100);
        value("near(- 1.05, 0.10)", MONEY, -110);
        value("even(1.05, 0.10)", MONEY, 100);
        value("even(1.15, 0.10)", MONEY, 120);
        value("even(- 1.05, 0.10)", MONEY, -100);
        value("even(- 1.15, 0.10)", MONEY, -120);
        value("even(1.06, 0.10)", MONEY, 110);
        CHECK.fails("up(1.00, 0.00)", ZERO);
        CHECK.fails("even(1.00, - 1.00)", ZERO);
        CHECK.fails("up(999999999.99 * 10, 700000000.00)", OVER);
    }

    private static void real(String text, double number) {
        value(text, REAL, Check.bits(number));
    }

    private static void odd(double number) {
        CHECK.house.suppose(1, Check.ODD, Check.bits(number), 0);
    }

    private static void reals() {
        real("real(1) / real(3)", 1.0 / 3.0);
        real("real(0.10) + real(0.20)", 10 / 100.0 + 20 / 100.0);
        real("real(1 / 3) * real(7)", 1.0 / 3.0 * 7.0);
        real("real(1) - real(10)", -9.0);
        real("- real(0)", -0.0);
        value("- real(0) = real(0)", TRUTH, 1);
        real("least(- real(0), real(0))", -0.0);
        real("most(real(0), - real(0))", 0.0);
        real("size(- real(2))", 2.0);
        real("real(7) rem real(5 / 2)", 2.0);
        real("- real(4) rem real(2)", -0.0);
        for (double number : new double[] {2.0, 3.0, 0.25, 1e-320, 3e-323, Double.MAX_VALUE, Double.MIN_NORMAL, 123456.789}) {
            odd(number);
            real("root(odd)", Math.sqrt(number));
            real("odd + real(1)", number + 1.0);
            real("odd / real(7)", number / 7.0);
            real("odd rem (odd / real(3))", number % (number / 3.0));
            real("odd rem real(1 / 7)", number % (1.0 / 7.0));
        }
        odd(-0.0);
        real("root(odd)", -0.0);
        odd(-1e-300);
        CHECK.fails("root(odd)", NOREAL);
        real("odd rem real(3)", -1e-300);
    }

    private static void realEdges() {
        odd(Double.MAX_VALUE);
        CHECK.fails("odd * real(2)", NOREAL);
        CHECK.fails("odd + odd", NOREAL);
        CHECK.fails("- odd - odd", NOREAL);
        CHECK.fails("cents(odd)", OVER);
        CHECK.fails("whole(odd)", OVER);
        odd(0.125);
        value("cents(odd)", MONEY, 12);
        odd(0.375);
        value("cents(odd)", MONEY, 38);
        odd(-0.125);
        value("cents(odd)", MONEY, -12);
        odd(1e10);
        value("cents(odd)", MONEY, 1000000000000L);
        odd(1.0000000001e10);
        CHECK.fails("cents(odd)", OVER);
        odd(2147483647.9);
        value("whole(odd)", COUNT, 2147483647);
        odd(-2147483648.9);
        value("whole(odd)", COUNT, -2147483648L);
        odd(2147483648.0);
        CHECK.fails("whole(odd)", OVER);
        value("whole(7 / 2)", COUNT, 3);
        value("whole(- 7 / 2)", COUNT, -3);
        CHECK.house.forget();
    }

    private static void people() {
        CHECK.due("parents", CHECK.facts("person 2 parent is 1; person 3 parent is 1 from 2000-01-01; person 4 mate is 2;"
                + "person 1 n is 10; person 2 n is 20; person 3 n is 30 until 1999-12-31; person 3 n is 31 from 2000-01-01;"
                + "person 0 n is 99; person 4 mate is 3 from 2001-01-01;"), 9);
        value("n", COUNT, 10);
        value("n of state", COUNT, 99);
        CHECK.due("n of parent", CHECK.ask("n of parent", 2, Check.TODAY), COUNT);
        CHECK.due("of parent", CHECK.house.value(0), 10);
        CHECK.due("n + n of parent on 1999-12-31", CHECK.ask("n on 1999-12-31 + n of parent", 3, Check.TODAY), COUNT);
        CHECK.due("on", CHECK.house.value(0), 40);
        CHECK.fails("parent", UNKNOWN);
        value("self of state", PERSON, 0);
        value("day on 1950-01-01", DATE, Check.day(1950, 1, 1));
        value("has(n)", TRUTH, 1);
        value("has(flag)", TRUTH, 0);
        value("flag", TRUTH, 0);
        value("has(parent)", TRUTH, 0);
    }

    private static void tables() {
        CHECK.fails("level(fees, 1.00)", NONE);
        CHECK.due("tables", CHECK.enact(0, "article 1 from 1990-01-01 { table slope { 10.00: 10%; 20.00: 20%; 30.00: 0%; }"
                + " table fees { 10.00: 5.00; 20.00: 8.00; 30.01: 1.00; } }"
                + " article 2 from 2005-01-01 { table fees { 0.00: 7.77; } }"), 2);
        rate("level(slope, 9.99)", 0, 1);
        rate("level(slope, 10.00)", 1, 10);
        rate("level(slope, 29.99)", 1, 5);
        rate("level(slope, 999999999.00)", 0, 1);
        value("level(fees, 0.00)", MONEY, 0);
        value("level(fees, 20.00)", MONEY, 800);
        value("level(fees, 0.00) on 2005-01-01", MONEY, 777);
        value("slices(slope, 10.00)", MONEY, 0);
        value("slices(slope, 10.05)", MONEY, 1);
        value("slices(slope, 25.00)", MONEY, 200);
        value("slices(slope, 100.00)", MONEY, 300);
        value("slices(slope, - 5.00)", MONEY, 0);
        value("between(fees, 5.00)", MONEY, 500);
        value("between(fees, 15.00)", MONEY, 650);
        value("between(fees, 20.00)", MONEY, 800);
        value("between(fees, 25.00)", MONEY, 450);
        value("between(fees, 99.00)", MONEY, 100);
        value("between(fees, 15.00) on 2005-01-01", MONEY, 777);
        CHECK.fails("level(fees, 1.00) on 1989-12-31", NONE);
        CHECK.fails("level(fees, 1.00 / 0) on 1989-12-31", ZERO);
        CHECK.due("steep", CHECK.enact(0, "article 3 { table slope { 0.00: 10000%; } }"), 1);
        value("slices(slope, 100000000.00)", MONEY, 1000000000000L);
        CHECK.fails("slices(slope, 100000000.01)", OVER);
    }

    private static void sets() {
        value("sum(n, parent)", COUNT, 51);
        value("sum(n, parent) on 1999-12-31", COUNT, 20);
        value("sum(1, parent) of state", COUNT, 0);
        value("count(n > 20, parent)", COUNT, 1);
        value("any(n > 30, parent)", TRUTH, 1);
        value("all(n > 30, parent)", TRUTH, 0);
        value("any(1 / 0 = 1, parent) of state", TRUTH, 0);
        value("all(1 / 0 = 1, parent) of state", TRUTH, 1);
        value("any(if(n = 31, 1 / 0 = 1, true), parent)", TRUTH, 1);
        CHECK.fails("any(if(n = 20, 1 / 0 = 1, true), parent)", ZERO);
        value("greatest(n, parent)", COUNT, 31);
        value("smallest(n, parent)", COUNT, 20);
        CHECK.fails("greatest(n, parent) of state", UNKNOWN);
        rate("sum(n / 100, parent)", 51, 100);
        real("sum(real(n), parent)", 51.0);
        value("sum(pay + 1.50, parent)", MONEY, 300);
        CHECK.fails("sum(n * 99999999, parent)", OVER);
        // mates: 4 hangs together with 2, from 2001 on with 3
        CHECK.due("together", CHECK.ask("sum(n, together)", 2, Check.TODAY), COUNT);
        CHECK.due("2 and 4", CHECK.house.value(0), 20);
        CHECK.due("together later", CHECK.ask("count(true, together)", 4, Check.day(2001, 1, 1)), COUNT);
        CHECK.due("3 and 4", CHECK.house.value(0), 2);
        value("count(true, together)", COUNT, 1);
        CHECK.house.suppose(0, Check.MATE, 4, 0);
        CHECK.due("together by one more", CHECK.ask("sum(n, together)", 0, Check.TODAY), COUNT);
        CHECK.due("0, 2 and 4", CHECK.house.value(0), 119);
        CHECK.house.forget();
    }

    private static void overs() {
        value("over(1, day, day)", COUNT, 1);
        value("over(1, day + 1 days, day + 30 days)", COUNT, 0);
        value("over(1, day + 1 days, day + 31 days)", COUNT, 1);
        value("over(monthof(day), day, day + 2 months)", COUNT, 6);
        value("over(1, day, day - 1 days)", COUNT, 0);
        value("over(1, day, day + 59 months)", COUNT, 60);
        CHECK.fails("over(1, day, day + 60 months)", LONG);
        CHECK.fails("over(1 / (31 - daysto(2000-01-01, day)), day, day + 60 months)", ZERO);
        rate("over(1%, day, day + 2 months)", 3, 100);
        CHECK.fails("over(1, 2079-06-06 + 1 days, day)", OVER);
        value("over(1, 2079-05-02, 2079-06-06)", COUNT, 1);
    }
}
