/** The bounds that "Terms" VI and promises 28 to 40 name: months, ENDS, DUE, LIMIT, interest, BAR, reminders, room. */
public final class DecisionBoundsTest {
    private static final int NONE = -1;
    private static final int RANGE = -2;
    private static final int STATE = -3;
    private static final int FULL = -4;
    private static final int TODAY = Check.TODAY;
    private static final int LAST = Check.LAST;
    private static final long MOST = 1000000000000L;
    private static final Check CHECK = new Check();

    public static void main(String[] args) {
        months();
        ends();
        dues();
        whatIsFinal();
        limits();
        limitsThatAreOver();
        fullMonthsOfInterest();
        ratesOfInterest();
        differences();
        interestOver();
        greaterOrLess();
        nothingHappens();
        payments();
        bars();
        barsByReminders();
        reminders();
        fees();
        roomByRevision();
        roomByReminders();
        accounts();
        CHECK.end("DecisionBoundsTest");
    }

    /** A house with two PEOPLE, where tax is what pay is, and 1.00 for each n. */
    private static StatuteHouse house() {
        CHECK.furnished(2);
        CHECK.due("law", CHECK.enact(0, "article 1 from 1900-01-01 { tax is pay + 1.00 * n; }"), 1);
        return CHECK.house;
    }

    private static void pay(long cents, int from, int to) {
        CHECK.due("pay is " + cents, CHECK.house.fact(1, Check.PAY, cents, 0, from, to) > 0 ? 1 : 0, 1);
    }

    private static void months() {
        StatuteHouse house = house();
        CHECK.due("one", house.decide(1, Check.TAX, TODAY, 1), 0);
        CHECK.due("twenty-four", house.decide(1, Check.TAX, TODAY, 24), 1);
        CHECK.due("twenty-five", house.decide(1, Check.TAX, TODAY, 25), RANGE);
        CHECK.due("none", house.decide(1, Check.TAX, TODAY, 0), RANGE);
        CHECK.due("the first day", house.decide(1, Check.TAX, 0, 1), 2);
        CHECK.due("its first", house.decision(2, 2), 0);
        CHECK.due("the last month", house.decide(1, Check.TAX, Check.day(2079, 6, 1), 1), 3);
        CHECK.due("behind it", house.decide(1, Check.TAX, Check.day(2079, 6, 1), 2), RANGE);
        CHECK.due("up to it", house.decide(1, Check.TAX, Check.day(2077, 7, 1), 24), 4);
        CHECK.due("beyond it", house.decide(1, Check.TAX, Check.day(2077, 8, 1), 24), RANGE);
        CHECK.due("the state", house.decide(0, Check.TAX, TODAY, 1), 5);
        CHECK.due("the last month's amount", house.amount(1, 23), 0);
        CHECK.due("behind that", house.amount(1, 24), Long.MIN_VALUE);
        CHECK.due("bookings", house.count(6), 1 + 24 + 1 + 1 + 24 + 1);
        CHECK.due("the last month's booking", house.booking(24, 2), 23);
        CHECK.due("its day", house.booking(24, 4), house.due(Check.day(2001, 12, 1), 0, 0));
    }

    /** ENDS: DUE of TODAY and one month. */
    private static void ends() {
        int[][] cases = {
            {Check.day(2000, 1, 3), Check.day(2000, 2, 3)},
            {Check.day(2000, 1, 31), Check.day(2000, 2, 29)},
            {Check.day(2001, 1, 31), Check.day(2001, 2, 28)},
            {Check.day(2000, 1, 5), Check.day(2000, 2, 7)},
            {Check.day(2079, 5, 6), LAST},
        };
        for (int[] one : cases) {
            StatuteHouse house = house();
            CHECK.due("pass", house.pass(one[0]), 0);
            CHECK.due("decide", house.decide(1, Check.TAX, TODAY, 1), 0);
            CHECK.due("its end from " + one[0], house.decision(0, 5), one[1]);
            CHECK.due("its day", house.decision(0, 6), one[0]);
        }
        StatuteHouse house = house();
        CHECK.due("pass", house.pass(Check.day(2079, 5, 7)), 0);
        CHECK.due("over", house.decide(1, Check.TAX, TODAY, 1), -18);
        CHECK.due("nothing is booked", house.count(6), 0);
        CHECK.due("no steps", house.count(12), 0);
        CHECK.due("nor decided", house.count(5), 0);
    }

    /** DUE of the later one of a month's FIRST and TODAY. */
    private static void dues() {
        StatuteHouse house = house();
        CHECK.due("pass", house.pass(Check.day(2000, 3, 1)), 0);
        CHECK.due("decide", house.decide(1, Check.TAX, Check.day(2000, 2, 1), 4), 0);
        CHECK.due("a month ahead of today", house.booking(0, 4), Check.day(2000, 3, 1));
        CHECK.due("today's", house.booking(1, 4), Check.day(2000, 3, 1));
        CHECK.due("later, on a Saturday", house.booking(2, 4), Check.day(2000, 4, 3));
        CHECK.due("later", house.booking(3, 4), Check.day(2000, 5, 1));
        CHECK.due("pass", house.pass(Check.day(2079, 5, 1)), 1);
        CHECK.due("no working day behind 1 June", CHECK.holidays("2 6; 5 6; 6 6;"), 3);
        CHECK.due("the last day that is due", house.decide(1, Check.TAX, Check.day(2079, 6, 1), 1), 1);
        CHECK.due("no working day in June", CHECK.holidays("1 6; 2 6; 5 6; 6 6;"), 4);
        CHECK.due("over", house.decide(1, Check.TAX, Check.day(2079, 6, 1), 1), -18);
        CHECK.due("without a term", house.failed(1), NONE);
    }

    /** OPEN till ENDS is ahead of TODAY. */
    private static void whatIsFinal() {
        StatuteHouse house = house();
        CHECK.due("decide", house.decide(1, Check.TAX, TODAY, 1), 0);
        CHECK.due("decide", house.decide(1, Check.TAX, TODAY, 1), 1);
        CHECK.due("object", house.object(1), 1);
        int end = house.decision(0, 5);
        CHECK.due("its end", house.pass(end), 0);
        CHECK.due("is open", house.decision(0, 4), 0);
        CHECK.due("the day behind", house.pass(end + 1), 1);
        CHECK.due("is final", house.decision(0, 4), 2);
        CHECK.due("objected still", house.decision(1, 4), 1);
        CHECK.due("none again", house.pass(LAST), 0);
        CHECK.due("objected at last", house.decision(1, 4), 1);
        CHECK.due("final by an answer", house.answer(1, false), 0);
        CHECK.due("is final, too", house.decision(1, 4), 2);
        CHECK.due("no objection", house.object(1), STATE);
    }

    /** A month may be revised, if its FIRST and LIMIT months is not ahead of TODAY. */
    private static void limits() {
        for (int limit : new int[] {0, 1, 12, 48, 600}) {
            StatuteHouse house = house();
            CHECK.due("limit " + limit, house.terms(limit, 0, 1), 1);
            CHECK.due("decide", house.decide(1, Check.TAX, TODAY, 1), 0);
            int until = Check.day(2000 + limit / 12, limit % 12 + 1, 1);
            CHECK.due("pass", house.pass(until) >= 0 ? 1 : 0, 1);
            pay(100, 0, LAST);
            CHECK.due("on the day", house.revise(0), 1);
            CHECK.due("pass", house.pass(until + 1) >= 0 ? 1 : 0, 1);
            pay(200, 0, LAST);
            CHECK.due("a day later", house.revise(0), 0);
            CHECK.due("it stays", house.amount(0, 0), 100);
            CHECK.due("nothing is reckoned", house.count(12), 0);
        }
        StatuteHouse house = house();
        CHECK.due("at first", house.decide(1, Check.TAX, TODAY, 1), 0);
        CHECK.due("48 months", house.pass(Check.day(2004, 1, 1)), 1);
        pay(100, 0, LAST);
        CHECK.due("may be", house.revise(0), 1);
        CHECK.due("a day more", house.pass(Check.day(2004, 1, 2)), 0);
        pay(200, 0, LAST);
        CHECK.due("may not", house.revise(0), 0);
    }

    /** Also if that is OVER. */
    private static void limitsThatAreOver() {
        StatuteHouse house = house();
        CHECK.due("limit", house.terms(600, 0, 1), 1);
        CHECK.due("decide", house.decide(1, Check.TAX, Check.day(2029, 6, 1), 2), 0);
        pay(100, 0, LAST);
        CHECK.due("pass", house.pass(Check.day(2079, 6, 2)), 1);
        CHECK.due("the second is over", house.revise(0), 1);
        CHECK.due("the first is too late", house.amount(0, 0), 0);
        CHECK.due("the second is not", house.amount(0, 1), 100);
    }

    /** n = fullmonths(DUE of the month's first BOOKING, TODAY) must be above 0. */
    private static void fullMonthsOfInterest() {
        int[][] cases = {{Check.day(2000, 2, 2), 0}, {Check.day(2000, 2, 3), 1}, {Check.day(2000, 3, 2), 1},
            {Check.day(2000, 3, 3), 2}, {Check.day(2001, 1, 3), 12}};
        for (int[] one : cases) {
            StatuteHouse house = house();
            CHECK.due("decide", house.decide(1, Check.TAX, TODAY, 1), 0);
            CHECK.due("due", house.booking(0, 4), Check.day(2000, 1, 3));
            CHECK.due("pass", house.pass(one[0]) >= 0 ? 1 : 0, 1);
            pay(20000, 0, LAST);
            CHECK.due("revise", house.revise(0), 1);
            CHECK.due("bookings after " + one[1], house.count(6), one[1] > 0 ? 3 : 2);
            CHECK.due("interest of " + one[1], house.booking(2, 3), one[1] > 0 ? one[1] * 100 : Long.MIN_VALUE);
            // from the first BOOKING's DUE, not from that of the revision
            pay(40000, 0, LAST);
            CHECK.due("revise again", house.revise(0), 1);
            CHECK.due("again", house.booking(house.count(6) - 1, 3), one[1] > 0 ? one[1] * 100 : 20000);
        }
        StatuteHouse house = house();
        pay(20000, 0, LAST);
        CHECK.due("decide", house.decide(1, Check.TAX, TODAY, 1), 0);
        CHECK.due("pass", house.pass(Check.day(2000, 2, 3) - 2), 0);
        CHECK.due("less", house.fact(1, Check.PAY, 0, 0, 0, LAST), 2);
        CHECK.due("revise", house.revise(0), 1);
        CHECK.due("no interest of what is less", house.count(6), 2);
    }

    private static void interest(int n, int d, long cents, long want) {
        StatuteHouse house = house();
        CHECK.due("terms " + n + "/" + d, house.terms(48, n, d), 1);
        CHECK.due("decide", house.decide(1, Check.TAX, TODAY, 1), 0);
        CHECK.due("pass", house.pass(Check.day(2000, 2, 3)), 1);
        pay(cents, 0, LAST);
        int answer = house.revise(0);
        CHECK.due("interest of " + cents + " at " + n + "/" + d, answer == 1 ? house.booking(2, 3) : answer, want);
    }

    private static void ratesOfInterest() {
        interest(1, 200, 1, 0);
        interest(1, 200, 99, 0);
        interest(1, 200, 100, 1);
        interest(1, 200, 299, 1);
        interest(1, 200, 300, 2);
        interest(0, 1, 100, 0);
        interest(0, Integer.MAX_VALUE, 100, 0);
        interest(2, 400, 100, 1);
        interest(1000000, 1, 1000000, MOST);
        interest(1000000, 1, 1000001, -18);
        interest(1, 1000000, 499999, 0);
        interest(1, 1000000, 500000, 1);
        interest(Integer.MAX_VALUE, Integer.MAX_VALUE, 100, 100);
        StatuteHouse house = house();
        CHECK.due("decide", house.decide(1, Check.TAX, TODAY, 1), 0);
        CHECK.due("pass", house.pass(Check.day(2000, 2, 3)), 1);
        pay(20000, 0, LAST);
        CHECK.due("revise", house.revise(0), 1);
        CHECK.due("1/200 at first", house.booking(2, 3), 100);
    }

    /** The difference is MONEY. */
    private static void differences() {
        for (int more = 0; more < 2; more++) {
            StatuteHouse house = house();
            pay(-MOST + 1, 0, LAST);
            CHECK.due("decide", house.decide(1, Check.TAX, TODAY, 1), 0);
            CHECK.due("credit", house.credit(1), MOST - 1);
            pay(1 + more, 0, LAST);
            CHECK.due("a difference of 10^12 and " + more, house.revise(0), more == 0 ? 1 : -18);
            CHECK.due("the amount", house.amount(0, 0), more == 0 ? 1 : -MOST + 1);
            CHECK.due("the booking", house.booking(1, 3), more == 0 ? MOST : Long.MIN_VALUE);
            CHECK.due("the credit", house.credit(1), more == 0 ? 0 : MOST - 1);
            house = house();
            pay(1 + more, 0, LAST);
            CHECK.due("decide", house.decide(1, Check.TAX, TODAY, 1), 0);
            pay(-MOST + 1, 0, LAST);
            CHECK.due("a difference of -10^12 and less " + more, house.revise(0), more == 0 ? 1 : -18);
            CHECK.due("the booking", house.booking(1, 3), more == 0 ? -MOST : Long.MIN_VALUE);
            CHECK.due("without a term", house.failed(1), NONE);
        }
    }

    /** n times the difference is MONEY, and so is that times INTEREST. */
    private static void interestOver() {
        for (int more = 0; more < 2; more++) {
            StatuteHouse house = house();
            CHECK.due("terms", house.terms(48, 0, 1), 1);
            CHECK.due("decide", house.decide(1, Check.TAX, TODAY, 1), 0);
            CHECK.due("pass", house.pass(Check.day(2000, 3, 3)), 1);
            pay(MOST / 2 + more, 0, LAST);
            CHECK.due("twice that", house.revise(0), more == 0 ? 1 : -18);
            CHECK.due("interest of 0", house.booking(2, 3), more == 0 ? 0 : Long.MIN_VALUE);
            CHECK.due("what came", house.failed(0), more == 0 ? 0 : 8);
        }
    }

    /** Of a FINAL one a greater AMOUNT alone, but by answer(). */
    private static void greaterOrLess() {
        StatuteHouse house = house();
        pay(1000, 0, LAST);
        for (int i = 0; i < 3; i++) {
            CHECK.due("decide", house.decide(1, Check.TAX, TODAY, 2), i);
        }
        CHECK.due("object", house.object(1), 1);
        pay(999, 0, TODAY);
        CHECK.due("an open one", house.revise(0), 1);
        CHECK.due("less", house.amount(0, 0), 999);
        CHECK.due("pass", house.pass(house.decision(0, 5) + 1), 2);
        pay(1000, 0, TODAY);
        pay(998, TODAY + 1, LAST);
        CHECK.due("a final one", house.revise(0), 1);
        CHECK.due("greater", house.amount(0, 0), 1000);
        CHECK.due("not less", house.amount(0, 1), 1000);
        CHECK.due("alike is no change", house.revise(0), 0);
        CHECK.due("a final one by answer", house.answer(1, true), 1);
        CHECK.due("also less", house.amount(1, 1), 998);
        CHECK.due("then it is final", house.revise(1), 0);
    }

    /** A FAULT anywhere: nothing happens, also not in months ahead. */
    private static void nothingHappens() {
        StatuteHouse house = house();
        CHECK.due("decide", house.decide(1, Check.TAX, TODAY, 3), 0);
        CHECK.due("object", house.object(0), 1);
        pay(500, 0, LAST);
        pay(MOST, Check.day(2000, 3, 1), LAST);
        CHECK.due("and one more", house.fact(1, Check.N, 1, 0, Check.day(2000, 3, 1), LAST) > 0 ? 1 : 0, 1);
        java.util.List<String> before = Seen.without(Seen.of(house), "count 12 ", "failed ");
        CHECK.due("the third month is over", house.answer(0, true), -18);
        CHECK.due("of the term", house.failed(1), Check.TAX);
        CHECK.due("on its first", house.failed(3), Check.day(2000, 3, 1));
        CHECK.text("all stays", Seen.difference(before, Seen.without(Seen.of(house), "count 12 ", "failed ")), "");
        CHECK.due("it stays objected", house.decision(0, 4), 1);
        CHECK.due("an answer that grants nothing", house.answer(0, false), 0);
    }

    private static void payments() {
        StatuteHouse house = house();
        CHECK.due("one cent", house.pay(1, 1), 1);
        CHECK.due("the most", house.pay(1, MOST), MOST + 1);
        CHECK.due("more", house.pay(1, MOST + 1), RANGE);
        CHECK.due("none", house.pay(1, 0), RANGE);
        CHECK.due("the state's", house.pay(0, 5), 5);
        CHECK.due("another's", house.credit(2), 0);
        pay(MOST, 0, LAST);
        CHECK.due("decide", house.decide(1, Check.TAX, TODAY, 1), 0);
        CHECK.due("what is left", house.credit(1), 1);
        CHECK.due("all is paid", house.booking(0, 6), 0);
        CHECK.due("decide", house.decide(1, Check.TAX, TODAY, 2), 1);
        CHECK.due("a cent less", house.booking(1, 6), MOST - 1);
        CHECK.due("just that", house.pay(1, MOST - 1), 0);
        CHECK.due("is paid", house.booking(1, 6), 0);
        CHECK.due("the next is not", house.booking(2, 6), MOST);
        // CREDIT of 10^15 and no more; that takes more calls than the document has for one object
        CHECK.due("the rest", house.pay(1, MOST), 0);
        for (int i = 0; i < 999; i++) {
            house.pay(1, MOST);
        }
        CHECK.due("one less", house.pay(1, MOST - 1), 1000 * MOST - 1);
        CHECK.due("two more", house.pay(1, 2), FULL);
        CHECK.due("it stays", house.credit(1), 1000 * MOST - 1);
        CHECK.due("one more", house.pay(1, 1), 1000 * MOST);
        CHECK.due("no more", house.pay(1, 1), FULL);
    }

    /** BARRED, if DUE and BAR months is ahead of TODAY; not, if that is OVER. */
    private static void bars() {
        int due = Check.day(2000, 1, 3);
        for (int bar : new int[] {1, 60, 600}) {
            StatuteHouse house = house();
            pay(100, 0, LAST);
            if (bar != 60) {
                CHECK.due("dues", house.dues(500, bar), 1);
            }
            CHECK.due("decide", house.decide(1, Check.TAX, TODAY, 1), 0);
            CHECK.due("due", house.booking(0, 4), due);
            int until = Check.day(2000 + bar / 12, bar % 12 + 1, 3);
            CHECK.due("pass", house.pass(until) >= 0 ? 1 : 0, 1);
            CHECK.due("not yet after " + bar, house.booking(0, 9), 0);
            CHECK.due("a day more", house.pass(until + 1) >= 0 ? 1 : 0, 1);
            CHECK.due("barred after " + bar, house.booking(0, 9), 1);
            CHECK.due("what is open", house.booking(0, 6), 100);
            CHECK.due("it is not paid", house.pay(1, 100), 100);
            CHECK.due("nor reminded of", house.remind(1), 0);
        }
        StatuteHouse house = house();
        pay(100, 0, LAST);
        CHECK.due("dues", house.dues(0, 600), 1);
        CHECK.due("decide", house.decide(1, Check.TAX, Check.day(2029, 7, 1), 1), 0);
        CHECK.due("decide", house.decide(1, Check.TAX, Check.day(2029, 6, 1), 1), 1);
        CHECK.due("pass", house.pass(LAST), 2);
        CHECK.due("over: never barred", house.booking(0, 9), 0);
        CHECK.due("just not over", house.booking(1, 9), 1);
        house = house();
        CHECK.due("decide", house.decide(1, Check.TAX, TODAY, 1), 0);
        CHECK.due("pass", house.pass(LAST), 1);
        CHECK.due("nothing open is not barred", house.booking(0, 9), 0);
        house = house();
        pay(100, 0, LAST);
        CHECK.due("decide", house.decide(1, Check.TAX, TODAY, 1), 0);
        CHECK.due("all but a cent", house.pay(1, 99), 0);
        CHECK.due("pass", house.pass(LAST), 1);
        CHECK.due("a cent is barred", house.booking(0, 9), 1);
    }

    private static void barsByReminders() {
        StatuteHouse house = house();
        pay(100, 0, LAST);
        CHECK.due("dues", house.dues(0, 1), 1);
        CHECK.due("decide", house.decide(1, Check.TAX, TODAY, 1), 0);
        int reminded = Check.day(2000, 1, 31);
        CHECK.due("pass", house.pass(reminded), 0);
        CHECK.due("remind", house.remind(1), 1);
        CHECK.due("a month from that", house.pass(Check.day(2000, 2, 29)), 1);
        CHECK.due("not yet", house.booking(0, 9), 0);
        CHECK.due("the day behind", house.pass(Check.day(2000, 3, 1)), 0);
        CHECK.due("barred", house.booking(0, 9), 1);
        // as TODAY passes: another BAR counts from then on
        house = house();
        pay(100, 0, LAST);
        CHECK.due("decide", house.decide(1, Check.TAX, TODAY, 1), 0);
        CHECK.due("pass", house.pass(Check.day(2000, 6, 1)), 1);
        CHECK.due("dues", house.dues(0, 1), 1);
        CHECK.due("not at once", house.booking(0, 9), 0);
        CHECK.due("the same day", house.pass(Check.day(2000, 6, 1)), 0);
        CHECK.due("barred", house.booking(0, 9), 1);
    }

    /** DUE, and the latest reminder, more than 14 DAYS ahead of TODAY; fewer than 3 reminders; something OPEN. */
    private static void reminders() {
        StatuteHouse house = house();
        pay(100, 0, LAST);
        CHECK.due("decide", house.decide(1, Check.TAX, TODAY, 1), 0);
        CHECK.due("decide for nothing", house.decide(2, Check.TAX, TODAY, 1), 1);
        int day = (int) house.booking(0, 4);
        for (int i = 0; i < 3; i++) {
            day += 14;
            CHECK.due("pass", house.pass(day) >= 0 ? 1 : 0, 1);
            CHECK.due("fourteen days", house.remind(1), 0);
            day++;
            CHECK.due("pass", house.pass(day) >= 0 ? 1 : 0, 1);
            CHECK.due("fifteen days", house.remind(1), 1);
            CHECK.due("so many", house.booking(0, 7), i + 1);
            CHECK.due("today", house.booking(0, 8), day);
            CHECK.due("the fee", house.booking(2 + i, 3), 500 * (i + 1));
            CHECK.due("its due", house.booking(2 + i, 4), house.due(day, 0, 14));
            CHECK.due("its sort", house.booking(2 + i, 5), 3);
            CHECK.due("no reminder of a fee", house.booking(2 + i, 7), 0);
        }
        CHECK.due("pass", house.pass(day + 100) >= 0 ? 1 : 0, 1);
        CHECK.due("no fourth", house.remind(1), 0);
        CHECK.due("nothing is open", house.remind(2), 0);
        CHECK.due("nobody", house.remind(3), NONE);
        house = house();
        pay(100, 0, LAST);
        CHECK.due("decide", house.decide(1, Check.TAX, TODAY, 1), 0);
        CHECK.due("pass", house.pass(TODAY + 20), 0);
        CHECK.due("one cent is left", house.pay(1, 99), 0);
        CHECK.due("remind", house.remind(1), 1);
        CHECK.due("pay", house.pay(1, 1), 0);
        CHECK.due("pass", house.pass(TODAY + 50) >= 0 ? 1 : 0, 1);
        CHECK.due("no cent is left", house.remind(1), 0);
        remindersAtTheEnd();
    }

    /** Less 18 when DUE of TODAY and 14 DAYS is OVER; 0 all the same if none may be. */
    private static void remindersAtTheEnd() {
        StatuteHouse house = house();
        pay(100, 0, LAST);
        CHECK.due("pass", house.pass(65490), 0);
        CHECK.due("decide", house.decide(1, Check.TAX, TODAY, 1), 0);
        CHECK.due("pass", house.pass(65521), 1);
        CHECK.due("the last day", house.remind(1), 1);
        CHECK.due("is due then", house.booking(1, 4), LAST);
        CHECK.due("none may be", house.remind(1), 0);
        CHECK.due("pass", house.pass(LAST), 0);
        CHECK.due("fourteen days later none may be", house.remind(1), 0);
        house = house();
        pay(100, 0, LAST);
        CHECK.due("pass", house.pass(65490), 0);
        CHECK.due("decide", house.decide(1, Check.TAX, TODAY, 1), 0);
        CHECK.due("pass", house.pass(65522), 1);
        CHECK.due("over", house.remind(1), -18);
        CHECK.due("no reminder", house.booking(0, 7), 0);
        CHECK.due("none that was latest", house.booking(0, 8), NONE);
        CHECK.due("no booking", house.count(6), 1);
        CHECK.due("none may be of another", house.remind(2), 0);
    }

    private static void fees() {
        for (int fee : new int[] {0, 1, 100000}) {
            StatuteHouse house = house();
            pay(100, 0, LAST);
            CHECK.due("dues " + fee, house.dues(fee, 600), 1);
            CHECK.due("decide", house.decide(1, Check.TAX, TODAY, 1), 0);
            for (int i = 1; i <= 3; i++) {
                CHECK.due("pass", house.pass(TODAY + 30 * i) >= 0 ? 1 : 0, 1);
                CHECK.due("remind", house.remind(1), 1);
                CHECK.due("fee " + i, house.booking(i, 3), (long) fee * i);
                CHECK.due("open " + i, house.booking(i, 6), (long) fee * i);
            }
        }
        StatuteHouse house = house();
        pay(100, 0, LAST);
        CHECK.due("decide", house.decide(1, Check.TAX, TODAY, 1), 0);
        CHECK.due("pass", house.pass(TODAY + 30), 0);
        CHECK.due("500 at first", house.remind(1), 1);
        CHECK.due("it is", house.booking(1, 3), 500);
    }

    /** 400 BOOKINGS: the last that comes and the first that does not, by decide() and revise(). */
    private static void roomByRevision() {
        StatuteHouse house = house();
        for (int i = 0; i < 16; i++) {
            CHECK.due("decide", house.decide(1, Check.TAX, TODAY, 24), i);
        }
        CHECK.due("too many", house.decide(1, Check.TAX, TODAY, 17), FULL);
        CHECK.due("just so many", house.decide(1, Check.TAX, TODAY, 12), 16);
        CHECK.due("three", house.decide(2, Check.TAX, TODAY, 3), 17);
        CHECK.due("bookings", house.count(6), 399);
        CHECK.due("two months are others", house.fact(2, Check.PAY, 100, 0, TODAY, Check.day(2000, 2, 1)), 1);
        CHECK.due("no room for two", house.revise(17), FULL);
        CHECK.due("nothing happens", house.amount(17, 0), 0);
        CHECK.due("object", house.object(17), 1);
        CHECK.due("no room for two", house.answer(17, true), FULL);
        CHECK.due("it stays objected", house.decision(17, 4), 1);
        CHECK.due("one month alone", house.fact(2, Check.PAY, 0, 0, TODAY, TODAY), 2);
        CHECK.due("room for one", house.answer(17, true), 1);
        CHECK.due("the 400th", house.booking(399, 3), 100);
        CHECK.due("no more", house.booking(400, 3), Long.MIN_VALUE);
        CHECK.due("none at all", house.decide(1, Check.TAX, TODAY, 1), FULL);
        CHECK.due("no change needs no room", house.revise(0), 0);
        interestNeedsRoom();
        whatIsNotBookedNeedsNone();
    }

    /** Of a FINAL one what is less is no change, also if the difference were OVER or there is no room. */
    private static void whatIsNotBookedNeedsNone() {
        StatuteHouse house = house();
        pay(1, 0, LAST);
        for (int i = 0; i < 16; i++) {
            CHECK.due("decide", house.decide(1, Check.TAX, TODAY, 24), i);
        }
        CHECK.due("decide", house.decide(1, Check.TAX, TODAY, 16), 16);
        CHECK.due("pass", house.pass(Check.day(2000, 6, 1)), 17);
        CHECK.due("late months that stay", house.revise(16), 0);
        pay(-MOST, 0, LAST);
        CHECK.due("months that would be less", house.revise(16), 0);
        CHECK.due("they stay", house.amount(16, 15), 1);
        CHECK.due("no fault", house.failed(0), 0);
        house = house();
        pay(1, 0, LAST);
        CHECK.due("decide", house.decide(1, Check.TAX, TODAY, 1), 0);
        pay(-MOST, 0, LAST);
        CHECK.due("an open one", house.revise(0), -18);
        CHECK.due("object", house.object(0), 1);
        CHECK.due("an objected one", house.answer(0, true), -18);
        CHECK.due("not granted", house.answer(0, false), 0);
        CHECK.due("a final one", house.revise(0), 0);
    }

    private static void interestNeedsRoom() {
        StatuteHouse house = house();
        for (int i = 0; i < 16; i++) {
            CHECK.due("decide", house.decide(1, Check.TAX, TODAY, 24), i);
        }
        CHECK.due("decide", house.decide(1, Check.TAX, TODAY, 14), 16);
        CHECK.due("one", house.decide(2, Check.TAX, TODAY, 1), 17);
        CHECK.due("bookings", house.count(6), 399);
        CHECK.due("pass", house.pass(Check.day(2000, 2, 3)) > 0 ? 1 : 0, 1);
        CHECK.due("more", house.fact(2, Check.PAY, 100, 0, 0, LAST), 1);
        CHECK.due("with interest these are two", house.revise(17), FULL);
        CHECK.due("nothing happens", house.amount(17, 0), 0);
    }

    private static void roomByReminders() {
        StatuteHouse house = house();
        pay(100, 0, LAST);
        for (int i = 0; i < 16; i++) {
            CHECK.due("decide", house.decide(2, Check.TAX, TODAY, 24), i);
        }
        CHECK.due("decide", house.decide(2, Check.TAX, TODAY, 12), 16);
        CHECK.due("two", house.decide(1, Check.TAX, TODAY - 31, 2), 17);
        CHECK.due("bookings", house.count(6), 398);
        CHECK.due("pass", house.pass(TODAY + 20), 0);
        CHECK.due("room for two", house.remind(1), 2);
        CHECK.due("all", house.count(6), 400);
        CHECK.due("pass", house.pass(TODAY + 40) > 0 ? 1 : 0, 1);
        CHECK.due("no room", house.remind(1), FULL);
        CHECK.due("nothing happens", house.booking(396, 7), 1);
        CHECK.due("none may be of another", house.remind(2), 0);
        house = house();
        pay(100, 0, LAST);
        for (int i = 0; i < 16; i++) {
            CHECK.due("decide", house.decide(2, Check.TAX, TODAY, 24), i);
        }
        CHECK.due("decide", house.decide(2, Check.TAX, TODAY, 13), 16);
        CHECK.due("two", house.decide(1, Check.TAX, TODAY - 31, 2), 17);
        CHECK.due("pass", house.pass(TODAY + 20), 0);
        CHECK.due("room for one is too little", house.remind(1), FULL);
        CHECK.due("nothing happens", house.booking(397, 7), 0);
        CHECK.due("bookings", house.count(6), 399);
    }

    private static void accounts() {
        StatuteHouse house = house();
        pay(100, 0, LAST);
        CHECK.due("none", house.account(1, LAST), 0);
        CHECK.due("decide", house.decide(1, Check.TAX, TODAY, 2), 0);
        int due = (int) house.booking(1, 4);
        CHECK.due("a day ahead", house.account(1, due - 1), 100);
        CHECK.due("on the day", house.account(1, due), 200);
        CHECK.due("any number", house.account(1, Integer.MAX_VALUE), 200);
        CHECK.due("any number below", house.account(1, Integer.MIN_VALUE), 0);
        CHECK.due("what is paid counts all the same", house.pay(1, 100), 0);
        CHECK.due("so", house.account(1, due), 200);
        CHECK.due("nobody's", house.account(3, due), Long.MIN_VALUE);
    }
}
