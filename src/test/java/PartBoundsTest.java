/** The bounds that "Terms" III and IV name: days from which laws hold, what PARTS are at their edges. */
public final class PartBoundsTest {
    private static final int TRUTH = 0;
    private static final int COUNT = 1;
    private static final int MONEY = 2;
    private static final int RATE = 3;
    private static final int DATE = 4;
    private static final int REAL = 6;
    private static final int PERSON = 7;
    private static final int NONE = 1;
    private static final int LONG = 5;
    private static final int UNKNOWN = 6;
    private static final int ZERO = 7;
    private static final int OVER = 8;
    private static final int NOREAL = 9;
    private static final int TODAY = Check.TODAY;
    private static final int LAST = Check.LAST;
    private static final Check CHECK = new Check();

    public static void main(String[] args) {
        versionsInForce();
        severalOfOneDay();
        ordersOfArticles();
        annulledRules();
        tablesInForce();
        byZero();
        fullMonths();
        rounding();
        nearestCents();
        whole();
        likeness();
        levels();
        slices();
        between();
        overFirsts();
        emptySets();
        setsThatStop();
        together();
        selves();
        CHECK.end("PartBoundsTest");
    }

    private static void value(String text, int kind, long first) {
        CHECK.value(text, kind, first, 0);
    }

    private static void kids(int law, int day, int known, long want) {
        int kind = CHECK.house.reckon(law, Check.KIDS, 1, day, known);
        CHECK.due("kids by " + law + " on " + day + " known " + known, kind == COUNT ? CHECK.house.value(0) : kind, want);
    }

    /** FROM not behind v, TOLD not behind k; the greatest FROM. */
    private static void versionsInForce() {
        CHECK.furnished(1);
        StatuteHouse house = CHECK.house;
        CHECK.due("law", CHECK.enact(0, "article 1 from 2000-01-11 { kids is 1; }"), 1);
        int from = Check.day(2000, 1, 11);
        kids(0, from - 1, LAST, -1);
        kids(0, from, LAST, 1);
        kids(0, LAST, LAST, 1);
        kids(0, from, TODAY - 1, -1);
        kids(0, from, TODAY, 1);
        CHECK.due("pass", house.pass(TODAY + 5), 0);
        CHECK.due("an earlier one, told later", CHECK.enact(0, "article 1 from 2000-01-10 { kids is 2; }"), 1);
        kids(0, from - 2, LAST, -1);
        kids(0, from - 1, LAST, 2);
        kids(0, from - 1, TODAY + 4, -1);
        kids(0, from - 1, TODAY + 5, 2);
        kids(0, from, LAST, 1);
        CHECK.due("one without a day is from today", CHECK.enact(0, "article 2 { yes is true; }"), 1);
        CHECK.due("not yet", house.reckon(0, Check.YES, 1, TODAY + 4, LAST), -11);
        CHECK.due("from then on", house.reckon(0, Check.YES, 1, TODAY + 5, LAST), 0);
        CHECK.due("the first day", CHECK.enact(1, "article 1 from 1900-01-01 { kids is 5; }"), 1);
        kids(1, 0, LAST, 5);
        CHECK.due("the last day", CHECK.enact(1, "article 1 from 2079-06-06 { kids is 6; }"), 1);
        kids(1, LAST - 1, LAST, 5);
        kids(1, LAST, LAST, 6);
    }

    /** Of several with one FROM the one told last; one without RULES is in force, too. */
    private static void severalOfOneDay() {
        CHECK.furnished(1);
        CHECK.due("two in one text", CHECK.enact(0, "article 1 { kids is 1; } article 1 { kids is 2; }"), 2);
        kids(0, TODAY, TODAY, 2);
        CHECK.due("a third", CHECK.enact(0, "article 1 { kids is 3; }"), 1);
        kids(0, TODAY, TODAY, 3);
        CHECK.due("pass", CHECK.house.pass(TODAY + 1), 0);
        CHECK.due("of the same day, told a day later", CHECK.enact(0, "article 1 from 2000-01-01 {}"), 1);
        kids(0, TODAY, TODAY, 3);
        kids(0, TODAY, TODAY + 1, -1);
        CHECK.due("nothing is written", CHECK.house.write(0, TODAY, TODAY + 1), 0);
        CHECK.due("it was", CHECK.house.write(0, TODAY, TODAY), "article 1 {\nkids is 3;\n}\n".length());
    }

    /** By number, then without a letter, a, b .. z. */
    private static void ordersOfArticles() {
        CHECK.furnished(1);
        CHECK.due("law", CHECK.enact(0, "article 10 { void; } article 2 z { void; } article 2 { void; } article 2 b { void; }"
                + "article 999 z { void; } article 1 a { void; } article 2 a { void; } article 999 { void; }"), 8);
        String[] order = {"1a", "2", "2a", "2b", "2z", "10", "999", "999z"};
        StringBuilder want = new StringBuilder();
        for (String article : order) {
            want.append("article ").append(article).append(" {\nvoid;\n}\n");
        }
        int size = CHECK.house.write(0, TODAY, TODAY);
        CHECK.text("in order", CHECK.out(size), want.toString());
        CHECK.due("differ from none", CHECK.house.differ(0, TODAY, TODAY, 1, TODAY, TODAY), 8);
        int[] numbers = {28, 54, 55, 56, 80, 270, 26973, 26999};
        for (int i = 0; i < 8; i++) {
            CHECK.due("article " + order[i], CHECK.house.differs(i), numbers[i]);
        }
        // of two RULES that HOLD the second in this order is the one that is worked out last
        CHECK.due("law", CHECK.enact(1, "article 2 { tax is 2.00 / 0; } article 1 b { tax is 1.00; } article 1 a { tax is 1.00; }"), 3);
        CHECK.due("a conflict ahead of the division", CHECK.house.reckon(1, Check.TAX, 1, TODAY, TODAY), -12);
        CHECK.due("lines", CHECK.house.count(13), 3);
        CHECK.due("article 1a first", CHECK.house.why(1, 5), 28);
        CHECK.due("article 1b then", CHECK.house.why(2, 5), 29);
    }

    /** On DAYS from one on, as known on the DAY on which it was told or later, in all LAWS and VERSIONS. */
    private static void annulledRules() {
        CHECK.furnished(1);
        StatuteHouse house = CHECK.house;
        CHECK.law("kids is 1; kids is 2 when false; table fees { 0.00: 1.00; } table fees { 0.00: 2.00; }");
        CHECK.due("fork", house.fork(3), 1);
        CHECK.due("pass", house.pass(TODAY + 10), 0);
        CHECK.due("annul", house.annul(27, 1, TODAY + 3), 1);
        for (int law = 0; law < 4; law += 3) {
            kids(law, TODAY + 2, LAST, 1);
            kids(law, TODAY + 3, LAST, -1);
            kids(law, TODAY + 3, TODAY + 9, 1);
            kids(law, TODAY + 3, TODAY + 10, -1);
            kids(law, LAST, LAST, -1);
        }
        CHECK.due("the last table", CHECK.ask("level(fees, 0.00)", 1, TODAY + 10), MONEY);
        CHECK.due("is in force", house.value(0), 200);
        CHECK.due("annul it", house.annul(27, 4, TODAY + 10), 2);
        CHECK.due("the first table", CHECK.ask("level(fees, 0.00)", 1, TODAY + 10), MONEY);
        CHECK.due("is in force then", house.value(0), 100);
        CHECK.due("annul that", house.annul(27, 3, TODAY + 11), 3);
        CHECK.due("still in force", CHECK.ask("level(fees, 0.00)", 1, TODAY + 10), MONEY);
        CHECK.due("none in force", CHECK.ask("level(fees, 0.00)", 1, TODAY + 11), -11);
        CHECK.due("another rule in its place is another one", CHECK.enact(0, "amend 1 { put 1: kids is 1; }"), 1);
        kids(0, TODAY + 10, TODAY + 10, 1);
        CHECK.due("annul on the first day", house.annul(27, 2, 0), -1);
        CHECK.due("annul on the last", house.annul(27, 2, LAST), 4);
    }

    private static void tablesInForce() {
        CHECK.furnished(1);
        CHECK.fails("level(fees, 1.00)", NONE);
        CHECK.due("law", CHECK.enact(0, "article 5 { table fees { 0.00: 5.00; } } article 2 { table fees { 0.00: 2.00; } }"
                + "article 5 a from 2000-01-05 { table fees { 0.00: 6.00; } }"), 3);
        value("level(fees, 1.00)", MONEY, 500);
        CHECK.fails("level(fees, 1.00) on 1999-12-31", NONE);
        value("level(fees, 1.00) on 2000-01-04", MONEY, 500);
        value("level(fees, 1.00) on 2000-01-05", MONEY, 600);
    }

    private static void byZero() {
        CHECK.furnished(1);
        CHECK.house.suppose(1, Check.PART, 0, 1);
        CHECK.house.suppose(1, Check.ODD, Check.bits(-0.0), 0);
        for (String zero : new String[] {"1 / n", "1 / part", "part / n", "part / part", "1.00 / n", "1.00 / part", "1.00 / pay",
            "odd / odd", "real(1) / odd", "1 rem n", "1.00 rem pay", "real(1) rem odd", "0 / 0", "0.00 / 0.00", "0 rem 0",
            "up(1.00, pay)", "down(1.00, pay)", "near(1.00, pay)", "even(1.00, pay)", "up(1.00, - 0.01)", "down(1.00, - 0.01)",
            "near(0.00, - 0.01)", "even(0.00, - 0.01)"}) {
            CHECK.fails(zero, ZERO);
        }
        value("0 rem 1", COUNT, 0);
        value("up(1.00, 0.01)", MONEY, 100);
        CHECK.value("0 / 1", RATE, 0, 1);
    }

    private static void fullMonths() {
        CHECK.furnished(1);
        value("fullmonths(day, day)", COUNT, 0);
        value("fullmonths(2000-01-31, 2000-02-28)", COUNT, 0);
        value("fullmonths(2000-01-31, 2000-02-29)", COUNT, 1);
        value("fullmonths(2000-01-31, 2000-03-30)", COUNT, 1);
        value("fullmonths(2000-01-31, 2000-03-31)", COUNT, 2);
        value("fullmonths(2000-02-29, 2000-03-28)", COUNT, 0);
        value("fullmonths(2000-02-29, 2000-03-29)", COUNT, 1);
        value("fullmonths(2000-02-29, 2001-02-27)", COUNT, 11);
        value("fullmonths(2000-02-29, 2001-02-28)", COUNT, 12);
        value("fullmonths(2000-01-15, 2000-02-14)", COUNT, 0);
        value("fullmonths(2000-01-15, 2000-02-15)", COUNT, 1);
        value("fullmonths(2000-02-14, 2000-01-15)", COUNT, 0);
        value("fullmonths(2000-02-15, 2000-01-15)", COUNT, -1);
        value("fullmonths(2000-02-29, 2000-01-31)", COUNT, -1);
        value("fullmonths(2000-02-28, 2000-01-31)", COUNT, 0);
        value("fullyears(2000-02-29, 2001-02-27)", COUNT, 0);
        value("fullyears(2000-02-29, 2001-02-28)", COUNT, 1);
        value("fullyears(2001-02-28, 2000-02-29)", COUNT, -1);
        value("fullyears(2001-02-27, 2000-02-29)", COUNT, 0);
        value("fullyears(1900-01-01, 2079-06-06)", COUNT, 179);
        value("fullyears(2079-06-06, 1900-01-01)", COUNT, -179);
        value("fullmonths(2079-05-06, 2079-06-06)", COUNT, 1);
        value("fullmonths(2079-05-07, 2079-06-06)", COUNT, 0);
        value("daysto(day, day)", COUNT, 0);
    }

    /** The multiple not below, not above, the nearest, halves away from 0 or to the even multiple. */
    private static void rounding() {
        CHECK.furnished(1);
        long[][] want = {
            // cents, then up, down, near, even to 10 cents
            {-25, -20, -30, -30, -20}, {-20, -20, -20, -20, -20}, {-16, -10, -20, -20, -20}, {-15, -10, -20, -20, -20},
            {-14, -10, -20, -10, -10}, {-5, 0, -10, -10, 0}, {-4, 0, -10, 0, 0}, {0, 0, 0, 0, 0}, {1, 10, 0, 0, 0},
            {4, 10, 0, 0, 0}, {5, 10, 0, 10, 0}, {6, 10, 0, 10, 10}, {10, 10, 10, 10, 10}, {14, 20, 10, 10, 10},
            {15, 20, 10, 20, 20}, {25, 30, 20, 30, 20}, {35, 40, 30, 40, 40}, {99, 100, 90, 100, 100},
        };
        String[] words = {"up", "down", "near", "even"};
        for (long[] row : want) {
            CHECK.house.suppose(1, Check.PAY, row[0], 0);
            for (int i = 0; i < 4; i++) {
                value(words[i] + "(pay, 0.10)", MONEY, row[i + 1]);
            }
        }
        value("near(0.01, 0.02)", MONEY, 2);
        value("even(0.01, 0.02)", MONEY, 0);
        value("near(- 0.01, 0.02)", MONEY, -2);
        // an odd unit has no halves
        value("near(0.01, 0.03)", MONEY, 0);
        value("near(0.02, 0.03)", MONEY, 3);
        value("even(0.02, 0.03)", MONEY, 3);
        // by the mode of a TERM likewise
        CHECK.due("names", CHECK.names("term m_up: money up 10; term m_down: money down 10; term m_near: money near 10;"
                + "term m_even: money even 10;"), 4);
        CHECK.law("m_up is pay; m_down is pay; m_near is pay; m_even is pay;");
        for (long[] row : want) {
            CHECK.house.suppose(1, Check.PAY, row[0], 0);
            for (int i = 0; i < 4; i++) {
                value("m_" + words[i], MONEY, row[i + 1]);
            }
        }
    }

    private static void odd(double number) {
        CHECK.house.suppose(1, Check.ODD, Check.bits(number), 0);
    }

    private static void nearestCents() {
        CHECK.furnished(1);
        double[] numbers = {0.0, -0.0, 0.004, 0.005, 0.006, 0.125, 0.375, 0.625, 0.875, -0.125, -0.375, 1.005, 2.5, 1e-300};
        long[] want = {0, 0, 0, 0, 1, 12, 38, 62, 88, -12, -38, 100, 250, 0};
        for (int i = 0; i < numbers.length; i++) {
            odd(numbers[i]);
            value("cents(odd)", MONEY, want[i]);
        }
        odd(9999999999.995);
        value("cents(odd)", MONEY, (long) Math.rint(9999999999.995 * 100.0));
        odd(10000000000.01);
        CHECK.fails("cents(odd)", OVER);
    }

    private static void whole() {
        CHECK.furnished(1);
        CHECK.house.suppose(1, Check.PART, 999999, 1000000);
        value("whole(part)", COUNT, 0);
        value("whole(- part)", COUNT, 0);
        value("whole(1 + 99%)", COUNT, 1);
        CHECK.house.suppose(1, Check.PART, -1000000, 1);
        value("whole(part)", COUNT, -1000000);
        odd(0.9999999999999999);
        value("whole(odd)", COUNT, 0);
        odd(-0.9999999999999999);
        value("whole(odd)", COUNT, 0);
        odd(-1.0);
        value("whole(odd)", COUNT, -1);
        CHECK.fails("root(odd)", NOREAL);
        odd(0.0);
        value("root(odd)", REAL, 0);
    }

    /** The left one, if they are alike; 0 is like -0; COUNT and RATE mixed. */
    private static void likeness() {
        CHECK.furnished(1);
        odd(-0.0);
        value("odd = real(0)", TRUTH, 1);
        value("odd # real(0)", TRUTH, 0);
        value("odd < real(0)", TRUTH, 0);
        value("least(odd, real(0))", REAL, Check.bits(-0.0));
        value("least(real(0), odd)", REAL, 0);
        value("most(odd, real(0))", REAL, Check.bits(-0.0));
        value("size(odd)", REAL, 0);
        value("2 = 200%", TRUTH, 1);
        value("2 <= 200%", TRUTH, 1);
        value("2 < 200%", TRUTH, 0);
        value("199% < 2", TRUTH, 1);
        value("1 days = 0 months", TRUTH, 0);
        value("0 days = 0 months", TRUTH, 1);
        value("self # self", TRUTH, 0);
        value("true = true", TRUTH, 1);
    }

    private static void levels() {
        CHECK.furnished(1);
        CHECK.law("table fees { 10.00: 1.00; 20.00: 2.00; } table slope { 0.00: 1%; 9999999.99: 2%; }");
        value("level(fees, - 0.01)", MONEY, 0);
        value("level(fees, 9.99)", MONEY, 0);
        value("level(fees, 10.00)", MONEY, 100);
        value("level(fees, 19.99)", MONEY, 100);
        value("level(fees, 20.00)", MONEY, 200);
        value("level(fees, 999999999.99)", MONEY, 200);
        CHECK.value("level(slope, - 0.01)", RATE, 0, 1);
        CHECK.value("level(slope, 0.00)", RATE, 1, 100);
        CHECK.value("level(slope, 9999999.98)", RATE, 1, 100);
        CHECK.value("level(slope, 9999999.99)", RATE, 1, 50);
    }

    /** Each row whose bound is below m, up to the lesser of m and the next bound, NEAR one by one. */
    private static void slices() {
        CHECK.furnished(1);
        CHECK.law("table slope { 1.00: 50%; 1.01: 50%; 1.03: 0%; 2.00: 10000%; }");
        value("slices(slope, 0.99)", MONEY, 0);
        value("slices(slope, 1.00)", MONEY, 0);
        value("slices(slope, 1.01)", MONEY, 1);
        value("slices(slope, 1.02)", MONEY, 2);
        value("slices(slope, 1.03)", MONEY, 2);
        value("slices(slope, 2.00)", MONEY, 2);
        value("slices(slope, 2.01)", MONEY, 102);
        value("slices(slope, - 1.00)", MONEY, 0);
        value("slices(slope, 100000001.98)", MONEY, 999999999802L);
        value("slices(slope, 100000001.99)", MONEY, 999999999902L);
        CHECK.fails("slices(slope, 100000002.00)", OVER);
    }

    private static void between() {
        CHECK.furnished(1);
        CHECK.law("table fees { 1.00: 5.00; 1.03: 5.02; 1.05: 5.01; }");
        value("between(fees, - 5.00)", MONEY, 500);
        value("between(fees, 1.00)", MONEY, 500);
        value("between(fees, 1.01)", MONEY, 501);
        value("between(fees, 1.02)", MONEY, 501);
        value("between(fees, 1.03)", MONEY, 502);
        // half a cent less: NEAR of what is below 0 is away from 0
        value("between(fees, 1.04)", MONEY, 501);
        value("between(fees, 1.05)", MONEY, 501);
        value("between(fees, 999999999.99)", MONEY, 501);
        CHECK.due("one row", CHECK.enact(0, "article 2 { table fees { 1.00: 7.00; } }"), 1);
        value("between(fees, 0.99)", MONEY, 700);
        value("between(fees, 1.00)", MONEY, 700);
        value("between(fees, 1.01)", MONEY, 700);
        CHECK.due("the widest", CHECK.enact(0, "article 3 { table fees { 0.00: 0.00; 9999999.99: 9999999.99; } }"), 1);
        value("between(fees, 9999999.98)", MONEY, 999999998);
    }

    /** Each FIRST that is not ahead of a nor behind b; the 61st is LONG. */
    private static void overFirsts() {
        CHECK.furnished(1);
        value("over(1, 2000-01-01, 2000-01-01)", COUNT, 1);
        value("over(1, 2000-01-02, 2000-01-31)", COUNT, 0);
        value("over(1, 2000-01-02, 2000-02-01)", COUNT, 1);
        value("over(1, 2000-01-01, 2000-02-01)", COUNT, 2);
        value("over(1, 2000-01-01, 1999-12-31)", COUNT, 0);
        value("over(1, 2000-03-01, 2000-01-01)", COUNT, 0);
        value("over(1, 2000-01-01, 2004-12-31)", COUNT, 60);
        value("over(1, 1999-12-02, 2004-12-31)", COUNT, 60);
        CHECK.fails("over(1, 2000-01-01, 2005-01-01)", LONG);
        CHECK.fails("over(1, 1999-12-01, 2004-12-01)", LONG);
        CHECK.due("without a term", CHECK.house.failed(1), -1);
        CHECK.fails("over(1 / 0, 2000-01-01, 2005-01-01)", ZERO);
        value("over(1 / 0, 2000-01-02, 2000-01-03) = 0", TRUTH, 1);
        value("over(dayof(day), 2000-01-01, 2000-12-31)", COUNT, 12);
        value("over(monthof(day), 2000-01-01, 2000-12-31)", COUNT, 78);
        value("over(1, 2079-06-01, 2079-06-06)", COUNT, 1);
        value("over(1, 2079-06-02, 2079-06-06)", COUNT, 0);
        value("over(1, 1900-01-01, 1900-01-01)", COUNT, 1);
        CHECK.value("over(1%, 2000-01-01, 2000-01-01)", RATE, 1, 100);
        CHECK.value("over(1%, 2000-01-02, 2000-01-02)", RATE, 0, 1);
        value("over(real(1), 2000-01-02, 2000-01-02)", REAL, 0);
        value("over(1.00, 2000-01-02, 2000-01-02)", MONEY, 0);
    }

    private static void emptySets() {
        CHECK.furnished(1);
        value("sum(1, parent)", COUNT, 0);
        value("sum(1.00, parent)", MONEY, 0);
        CHECK.value("sum(1%, parent)", RATE, 0, 1);
        value("sum(real(1), parent)", REAL, 0);
        value("count(true, parent)", COUNT, 0);
        value("any(true, parent)", TRUTH, 0);
        value("all(false, parent)", TRUTH, 1);
        CHECK.fails("greatest(1, parent)", UNKNOWN);
        CHECK.fails("smallest(day, parent)", UNKNOWN);
        // SELF alone hangs together with SELF
        value("sum(1, together)", COUNT, 1);
        value("any(self = state, together)", TRUTH, 0);
        value("smallest(n, together)", COUNT, 0);
    }

    /** As soon as one is true, false, no more are worked out; the first of those alike. */
    private static void setsThatStop() {
        CHECK.furnished(4);
        CHECK.facts("person 2 parent is 1; person 3 parent is 1; person 4 parent is 1; person 2 n is 2; person 3 n is 0;"
                + "person 4 n is 4;");
        CHECK.fails("any(6 / n = 9, parent)", ZERO);
        value("any(6 / n = 3, parent)", TRUTH, 1);
        value("all(6 / n = 9, parent)", TRUTH, 0);
        CHECK.fails("all(6 / n = 3, parent)", ZERO);
        CHECK.fails("count(6 / n = 3, parent)", ZERO);
        odd(-0.0);
        CHECK.house.suppose(2, Check.ODD, Check.bits(-0.0), 0);
        CHECK.house.suppose(3, Check.ODD, 0, 0);
        CHECK.house.suppose(4, Check.ODD, Check.bits(-0.0), 0);
        value("greatest(odd, parent)", REAL, Check.bits(-0.0));
        value("smallest(odd, parent)", REAL, Check.bits(-0.0));
        CHECK.house.suppose(2, Check.ODD, 0, 0);
        value("greatest(odd, parent)", REAL, 0);
        value("smallest(odd, parent)", REAL, 0);
        // by a RECORD then, as known then; an else tells no one
        value("sum(1, parent)", COUNT, 3);
        CHECK.due("withdrawn", CHECK.facts("person 3 parent withdrawn from 2000-01-02;"), 1);
        value("sum(1, parent)", COUNT, 3);
        value("sum(1, parent) on 2000-01-02", COUNT, 2);
        CHECK.feed("sum(1, parent)");
        CHECK.due("as known the day ahead", CHECK.house.ask(0, 1, TODAY, TODAY - 1), COUNT);
        CHECK.due("there was none", CHECK.house.value(0), 0);
    }

    /** FACTS that join, of the one or the other, and so on; other FACTS of PERSONS don't. */
    private static void together() {
        CHECK.furnished(29);
        for (int person = 1; person < 29; person++) {
            CHECK.house.fact(person, Check.MATE, person + 1, 0, TODAY, TODAY);
        }
        CHECK.facts("person 0 parent is 1;");
        value("count(true, together)", COUNT, 29);
        value("count(true, together) on 1999-12-31", COUNT, 1);
        value("count(true, together) on 2000-01-02", COUNT, 1);
        value("count(true, together) of state", COUNT, 1);
        CHECK.due("from the far end", CHECK.ask("sum(1, together)", 29, TODAY), COUNT);
        CHECK.due("all but the state", CHECK.house.value(0), 29);
        CHECK.due("the state, too, for a day", CHECK.house.fact(0, Check.MATE, 1, 0, TODAY, TODAY) > 0 ? 1 : 0, 1);
        CHECK.due("from the far end", CHECK.ask("sum(1, together)", 29, TODAY), COUNT);
        CHECK.due("all thirty", CHECK.house.value(0), 30);
        CHECK.due("no more", CHECK.house.withdraw(0, Check.MATE, 0, LAST) > 0 ? 1 : 0, 1);
        CHECK.due("a link is gone", CHECK.facts("person 15 mate withdrawn;"), 1);
        value("count(true, together)", COUNT, 15);
        CHECK.due("supposed again", CHECK.house.suppose(15, Check.MATE, 0, 0), 1);
        value("count(true, together)", COUNT, 16);
        value("count(true, together) of state", COUNT, 16);
    }

    private static void selves() {
        CHECK.furnished(2);
        CHECK.facts("person 1 parent is 2; person 2 parent is 0; person 0 n is 7; person 2 n is 5 from 2000-01-05;");
        value("self", PERSON, 1);
        value("state", PERSON, 0);
        value("self of parent", PERSON, 2);
        value("n of parent of parent", COUNT, 7);
        value("n of parent", COUNT, 0);
        value("n of parent on 2000-01-05", COUNT, 5);
        value("(n on 2000-01-05) of parent", COUNT, 5);
        value("day on 1900-01-01", DATE, 0);
        value("(day on (day + 1 days)) on 1999-12-31", DATE, TODAY);
        CHECK.fails("n of parent of state", UNKNOWN);
    }
}
