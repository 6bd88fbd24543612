/** Promises 28 to 40: decisions, what they make due, what is paid and reminded of. */
public final class DecisionsTest {
    private static final int NONE = -1;
    private static final int RANGE = -2;
    private static final int STATE = -3;
    private static final int FULL = -4;
    private static final int TODAY = Check.TODAY;
    private static final Check CHECK = new Check();

    public static void main(String[] args) {
        terms();
        decide();
        decideWithFaults();
        objectAndAnswer();
        revise();
        limits();
        interest();
        reviseWithFaults();
        pay();
        remind();
        bars();
        room();
        CHECK.end("DecisionsTest");
    }

    /** A house where tax is what n is in units of 1.00, with two PEOPLE. */
    private static void house() {
        CHECK.furnished(2);
        CHECK.law("tax is 1.00 * n;");
    }

    private static void booking(int i, long... want) {
        for (int what = 0; what < want.length; what++) {
            CHECK.due("booking " + i + " what " + what, CHECK.house.booking(i, what), want[what]);
        }
        CHECK.due("booking " + i + " what 10", CHECK.house.booking(i, 10), Long.MIN_VALUE);
        CHECK.due("booking " + i + " what -1", CHECK.house.booking(i, -1), Long.MIN_VALUE);
    }

    private static void terms() {
        house();
        CHECK.due("terms", CHECK.house.terms(0, 0, 1), 1);
        CHECK.due("terms", CHECK.house.terms(600, 2000000, 2000000), 1);
        CHECK.due("limit below", CHECK.house.terms(-1, 1, 1), RANGE);
        CHECK.due("limit above", CHECK.house.terms(601, 1, 1), RANGE);
        CHECK.due("interest below", CHECK.house.terms(0, -1, 1), RANGE);
        CHECK.due("interest over 0", CHECK.house.terms(0, 1, 0), RANGE);
        CHECK.due("interest over less", CHECK.house.terms(0, 1, -1), RANGE);
        CHECK.due("no rate", CHECK.house.terms(0, 1, 1000001), RANGE);
        CHECK.due("no rate", CHECK.house.terms(0, 1000001, 1), RANGE);
        CHECK.due("dues", CHECK.house.dues(0, 1), 1);
        CHECK.due("dues", CHECK.house.dues(100000, 600), 1);
        CHECK.due("fee below", CHECK.house.dues(-1, 1), RANGE);
        CHECK.due("fee above", CHECK.house.dues(100001, 1), RANGE);
        CHECK.due("bar below", CHECK.house.dues(0, 0), RANGE);
        CHECK.due("bar above", CHECK.house.dues(0, 601), RANGE);
    }

    private static void decide() {
        house();
        CHECK.facts("person 1 n is 5; person 1 n is 7 from 2000-02-01 until 2000-02-01;");
        CHECK.house.suppose(1, Check.N, 99, 0);
        CHECK.due("no person", CHECK.house.decide(3, Check.TAX, TODAY, 1), NONE);
        CHECK.due("no money term", CHECK.house.decide(1, Check.KIDS, TODAY, 1), NONE);
        CHECK.due("no term", CHECK.house.decide(1, Check.PAY, TODAY, 1), NONE);
        CHECK.due("no first", CHECK.house.decide(1, Check.TAX, TODAY + 1, 1), RANGE);
        CHECK.due("no day", CHECK.house.decide(1, Check.TAX, -1, 1), RANGE);
        CHECK.due("no months", CHECK.house.decide(1, Check.TAX, TODAY, 0), RANGE);
        CHECK.due("too many months", CHECK.house.decide(1, Check.TAX, TODAY, 25), RANGE);
        CHECK.due("beyond the days", CHECK.house.decide(1, Check.TAX, Check.day(2079, 6, 1), 2), RANGE);
        CHECK.due("decide", CHECK.house.decide(1, Check.TAX, Check.day(1999, 12, 1), 3), 0);
        int[] want = {1, Check.TAX, Check.day(1999, 12, 1), 3, 0, Check.day(2000, 2, 1), TODAY};
        for (int what = 0; what < want.length; what++) {
            CHECK.due("decision what " + what, CHECK.house.decision(0, what), want[what]);
        }
        CHECK.due("decision what 7", CHECK.house.decision(0, 7), NONE);
        CHECK.due("decision what -1", CHECK.house.decision(0, -1), NONE);
        CHECK.due("no decision", CHECK.house.decision(1, 0), NONE);
        long[] amounts = {500, 500, 700};
        for (int month = 0; month < 3; month++) {
            CHECK.due("amount " + month, CHECK.house.amount(0, month), amounts[month]);
        }
        CHECK.due("no month", CHECK.house.amount(0, 3), Long.MIN_VALUE);
        CHECK.due("no month below", CHECK.house.amount(0, -1), Long.MIN_VALUE);
        CHECK.due("no decision's", CHECK.house.amount(1, 0), Long.MIN_VALUE);
        booking(0, 1, 0, 0, 500, TODAY + 2, 0, 500, 0, NONE, 0);
        booking(1, 1, 0, 1, 500, TODAY + 2, 0, 500, 0, NONE, 0);
        booking(2, 1, 0, 2, 700, Check.day(2000, 2, 1), 0, 700, 0, NONE, 0);
        CHECK.due("no booking", CHECK.house.booking(3, 0), Long.MIN_VALUE);
        CHECK.due("bookings", CHECK.house.count(6), 3);
        CHECK.due("decisions", CHECK.house.count(5), 1);
        CHECK.due("account", CHECK.house.account(1, TODAY + 1), 0);
        CHECK.due("account", CHECK.house.account(1, TODAY + 2), 1000);
        CHECK.due("account at last", CHECK.house.account(1, Integer.MAX_VALUE), 1700);
        CHECK.due("account at first", CHECK.house.account(1, Integer.MIN_VALUE), 0);
        CHECK.due("another's account", CHECK.house.account(2, TODAY + 2), 0);
        CHECK.due("nobody's account", CHECK.house.account(3, TODAY), Long.MIN_VALUE);
        CHECK.due("also 0", CHECK.house.decide(2, Check.TAX, TODAY, 1), 1);
        booking(3, 2, 1, 0, 0, TODAY + 2, 0, 0, 0, NONE, 0);
    }

    private static void decideWithFaults() {
        house();
        CHECK.due("no rule yet", CHECK.house.decide(1, Check.TAX, Check.day(1989, 12, 1), 2), -11);
        CHECK.due("of the term", CHECK.house.failed(1), Check.TAX);
        CHECK.due("nothing is booked", CHECK.house.count(6), 0);
        CHECK.due("pass", CHECK.house.pass(Check.day(2079, 5, 1)), 0);
        CHECK.due("decide late", CHECK.house.decide(1, Check.TAX, TODAY, 1), 0);
        CHECK.due("pass", CHECK.house.pass(Check.day(2079, 5, 7)), 0);
        CHECK.due("its end is over", CHECK.house.decide(1, Check.TAX, TODAY, 1), -18);
        CHECK.due("a fault", CHECK.house.failed(0), 8);
        CHECK.due("without a term", CHECK.house.failed(1), NONE);
        CHECK.due("decisions", CHECK.house.count(5), 1);
    }

    private static void objectAndAnswer() {
        house();
        CHECK.facts("person 1 n is 5;");
        CHECK.due("no decision", CHECK.house.object(0), NONE);
        CHECK.due("no decision", CHECK.house.answer(0, true), NONE);
        CHECK.due("decide", CHECK.house.decide(1, Check.TAX, TODAY, 2), 0);
        CHECK.due("decide", CHECK.house.decide(1, Check.TAX, TODAY, 1), 1);
        CHECK.due("decide", CHECK.house.decide(1, Check.TAX, TODAY, 1), 2);
        CHECK.due("no answer yet", CHECK.house.answer(0, true), STATE);
        CHECK.due("object", CHECK.house.object(0), 1);
        CHECK.due("objected", CHECK.house.decision(0, 4), 1);
        CHECK.due("object again", CHECK.house.object(0), STATE);
        CHECK.due("object to another", CHECK.house.object(1), 1);
        CHECK.due("no revision meanwhile", CHECK.house.revise(0), STATE);
        CHECK.due("the end", CHECK.house.decision(2, 5), Check.day(2000, 2, 1));
        CHECK.due("not yet final", CHECK.house.pass(Check.day(2000, 2, 1)), 0);
        CHECK.due("final", CHECK.house.pass(Check.day(2000, 2, 2)), 1);
        CHECK.due("the third is", CHECK.house.decision(2, 4), 2);
        CHECK.due("no objection then", CHECK.house.object(2), STATE);
        CHECK.due("objected ones are not", CHECK.house.decision(0, 4), 1);
        CHECK.facts("person 1 n is 3 from 2000-02-01;");
        CHECK.due("not granted", CHECK.house.answer(1, false), 0);
        CHECK.due("is final", CHECK.house.decision(1, 4), 2);
        CHECK.due("granted", CHECK.house.answer(0, true), 1);
        CHECK.due("is final, too", CHECK.house.decision(0, 4), 2);
        CHECK.due("the first month stays", CHECK.house.amount(0, 0), 500);
        CHECK.due("the second is less", CHECK.house.amount(0, 1), 300);
        booking(4, 1, 0, 1, -200, Check.day(2000, 2, 2), 1, 0, 0, NONE, 0);
        CHECK.due("what is less is settled", CHECK.house.booking(0, 6), 300);
        CHECK.due("no credit is left", CHECK.house.credit(1), 0);
        CHECK.due("no answer again", CHECK.house.answer(0, true), STATE);
    }

    private static void revise() {
        house();
        CHECK.facts("person 1 n is 5;");
        CHECK.due("none", CHECK.house.revise(0), NONE);
        CHECK.due("decide", CHECK.house.decide(1, Check.TAX, TODAY, 3), 0);
        CHECK.due("nothing new", CHECK.house.revise(0), 0);
        CHECK.facts("person 1 n is 4 from 2000-02-01; person 1 n is 6 from 2000-03-01;");
        CHECK.house.suppose(1, Check.N, 50, 0);
        CHECK.due("two changed", CHECK.house.revise(0), 2);
        booking(3, 1, 0, 1, -100, TODAY + 2, 1, 0, 0, NONE, 0);
        booking(4, 1, 0, 2, 100, TODAY + 2, 1, 100, 0, NONE, 0);
        CHECK.due("no interest", CHECK.house.count(6), 5);
        CHECK.due("open still", CHECK.house.decision(0, 4), 0);
        CHECK.due("final", CHECK.house.pass(Check.day(2000, 2, 15)), 1);
        CHECK.facts("person 1 n is 1 from 2000-01-01; person 1 n is 9 from 2000-03-01;");
        CHECK.due("of a final one what is greater", CHECK.house.revise(0), 1);
        CHECK.due("stays", CHECK.house.amount(0, 0), 500);
        CHECK.due("stays, too", CHECK.house.amount(0, 1), 400);
        CHECK.due("is greater", CHECK.house.amount(0, 2), 900);
    }

    /** LIMIT: months whose FIRST and so many months are ahead of TODAY are not revised, but by answer(). */
    private static void limits() {
        house();
        CHECK.due("decide", CHECK.house.decide(1, Check.TAX, TODAY, 3), 0);
        CHECK.due("objected", CHECK.house.decide(1, Check.TAX, TODAY, 3), 1);
        CHECK.due("object", CHECK.house.object(1), 1);
        CHECK.due("limit", CHECK.house.terms(2, 0, 1), 1);
        CHECK.due("pass", CHECK.house.pass(Check.day(2000, 4, 1)), 1);
        CHECK.facts("person 1 n is 1;");
        CHECK.due("the last two", CHECK.house.revise(0), 2);
        CHECK.due("the first stays", CHECK.house.amount(0, 0), 0);
        CHECK.due("all of an answer", CHECK.house.answer(1, true), 3);
        house();
        CHECK.due("pass", CHECK.house.pass(Check.day(2078, 1, 3)), 0);
        CHECK.due("decide", CHECK.house.decide(1, Check.TAX, Check.day(2078, 1, 1), 1), 0);
        CHECK.facts("person 1 n is 1;");
        CHECK.due("a limit that is over", CHECK.house.revise(0), 1);
    }

    private static void interest() {
        house();
        CHECK.due("decide", CHECK.house.decide(1, Check.TAX, TODAY, 2), 0);
        CHECK.due("due", CHECK.house.booking(0, 4), Check.day(2000, 1, 3));
        CHECK.facts("person 1 n is 100;");
        CHECK.due("pass", CHECK.house.pass(Check.day(2000, 3, 2)), 1);
        CHECK.due("two months", CHECK.house.revise(0), 2);
        int due = Check.day(2000, 3, 2);
        // one full month from 3 January and from 1 February, 1/200 of 100.00 each
        booking(2, 1, 0, 0, 10000, due, 1, 10000, 0, NONE, 0);
        booking(3, 1, 0, 0, 50, due, 2, 50, 0, NONE, 0);
        booking(4, 1, 0, 1, 10000, due, 1, 10000, 0, NONE, 0);
        booking(5, 1, 0, 1, 50, due, 2, 50, 0, NONE, 0);
        CHECK.due("another rate", CHECK.house.terms(48, 1, 40000), 1);
        CHECK.facts("person 1 n is 101;");
        CHECK.due("pass", CHECK.house.pass(Check.day(2001, 1, 3)), 0);
        CHECK.due("a year", CHECK.house.revise(0), 2);
        booking(7, 1, 0, 0, 0, Check.day(2001, 1, 3), 2, 0, 0, NONE, 0);
        CHECK.due("also 0 is booked", CHECK.house.count(6), 10);
    }

    private static void reviseWithFaults() {
        CHECK.furnished(1);
        CHECK.law("tax is pay;");
        CHECK.facts("person 1 pay is - 999999999.99;");
        CHECK.due("decide", CHECK.house.decide(1, Check.TAX, TODAY, 2), 0);
        CHECK.due("credit of what is below 0", CHECK.house.credit(1), 199999999998L);
        CHECK.house.fact(1, Check.PAY, 1000000000000L, 0, Check.day(2000, 2, 1), 65535);
        CHECK.house.fact(1, Check.PAY, 5, 0, 0, TODAY);
        CHECK.due("the difference is over", CHECK.house.revise(0), -18);
        CHECK.due("without a term", CHECK.house.failed(1), NONE);
        CHECK.due("nothing happens", CHECK.house.amount(0, 0), -99999999999L);
        CHECK.house.fact(1, Check.PAY, 900000000000L, 0, Check.day(2000, 2, 1), 65535);
        CHECK.due("now it is not", CHECK.house.revise(0), 2);
        CHECK.due("pass", CHECK.house.pass(Check.day(2000, 5, 1)), 1);
        CHECK.house.fact(1, Check.PAY, 1000000000000L, 0, Check.day(2000, 2, 1), 65535);
        CHECK.house.terms(48, 10, 1);
        CHECK.due("interest is over", CHECK.house.revise(0), -18);
        CHECK.house.terms(48, 0, 1);
        CHECK.due("without interest", CHECK.house.revise(0), 1);
        CHECK.house.withdraw(1, Check.PAY, 0, 65535);
        CHECK.due("amendment", CHECK.enact(0, "amend 1 from 1990-01-01 { put 1: tax is pay / n; }"), 1);
        CHECK.due("a fault of the term", CHECK.house.revise(0), -17);
        CHECK.due("of the rule", CHECK.house.failed(5), 1);
    }

    private static void pay() {
        house();
        CHECK.facts("person 1 n is 5; person 2 n is 8;");
        CHECK.due("nobody", CHECK.house.pay(3, 1), NONE);
        CHECK.due("nothing", CHECK.house.pay(1, 0), RANGE);
        CHECK.due("too much", CHECK.house.pay(1, 1000000000001L), RANGE);
        CHECK.due("ahead of all", CHECK.house.pay(1, 300), 300);
        CHECK.due("decide", CHECK.house.decide(1, Check.TAX, Check.day(2000, 2, 1), 1), 0);
        CHECK.due("it is settled", CHECK.house.credit(1), 0);
        CHECK.due("what is open", CHECK.house.booking(0, 6), 200);
        CHECK.due("decide for one due ahead", CHECK.house.decide(1, Check.TAX, TODAY, 2), 1);
        CHECK.due("decide for another", CHECK.house.decide(2, Check.TAX, TODAY, 1), 2);
        CHECK.due("pay", CHECK.house.pay(1, 600), 0);
        CHECK.due("the least due first", CHECK.house.booking(1, 6), 0);
        CHECK.due("then the first of those alike", CHECK.house.booking(0, 6), 100);
        CHECK.due("then the other", CHECK.house.booking(2, 6), 500);
        CHECK.due("not another's", CHECK.house.booking(3, 6), 800);
        CHECK.due("all and more", CHECK.house.pay(1, 1000), 400);
        CHECK.due("credit", CHECK.house.credit(1), 400);
        CHECK.due("nobody's credit", CHECK.house.credit(3), NONE);
        for (int i = 0; i < 999; i++) {
            CHECK.house.pay(0, 1000000000000L);
        }
        CHECK.due("up to the most", CHECK.house.pay(0, 1000000000000L), 1000000000000000L);
        CHECK.due("no more", CHECK.house.pay(0, 1), FULL);
        CHECK.due("it stays", CHECK.house.credit(0), 1000000000000000L);
    }

    private static void remind() {
        house();
        CHECK.facts("person 1 n is 5;");
        CHECK.due("nobody", CHECK.house.remind(3), NONE);
        CHECK.due("nothing", CHECK.house.remind(1), 0);
        CHECK.due("decide", CHECK.house.decide(1, Check.TAX, TODAY, 2), 0);
        CHECK.due("pass", CHECK.house.pass(TODAY + 16), 0);
        CHECK.due("fourteen days are not more", CHECK.house.remind(1), 0);
        CHECK.due("pass", CHECK.house.pass(TODAY + 17), 0);
        CHECK.due("one", CHECK.house.remind(1), 1);
        booking(0, 1, 0, 0, 500, TODAY + 2, 0, 500, 1, TODAY + 17, 0);
        booking(2, 1, 0, 0, 500, TODAY + 31, 3, 500, 0, NONE, 0);
        CHECK.due("not at once again", CHECK.house.remind(1), 0);
        CHECK.due("pass", CHECK.house.pass(TODAY + 31), 0);
        CHECK.due("nor fourteen days later", CHECK.house.remind(1), 0);
        CHECK.due("pass", CHECK.house.pass(TODAY + 46), 1);
        CHECK.due("both months, no fee", CHECK.house.remind(1), 2);
        booking(3, 1, 0, 0, 1000, Check.day(2000, 3, 1), 3, 1000, 0, NONE, 0);
        booking(4, 1, 0, 1, 500, Check.day(2000, 3, 1), 3, 500, 0, NONE, 0);
        CHECK.due("no fee", CHECK.house.dues(0, 60), 1);
        CHECK.due("pass", CHECK.house.pass(TODAY + 100), 0);
        CHECK.due("a third and a second", CHECK.house.remind(1), 2);
        CHECK.due("a fee of 0", CHECK.house.booking(5, 3), 0);
        CHECK.due("pass", CHECK.house.pass(TODAY + 200), 0);
        CHECK.due("no fourth", CHECK.house.remind(1), 1);
        CHECK.due("three", CHECK.house.booking(0, 7), 3);
        CHECK.due("three, too", CHECK.house.booking(1, 7), 3);
        CHECK.due("pay", CHECK.house.pay(1, 3000), 0);
        CHECK.due("decide", CHECK.house.decide(1, Check.TAX, TODAY, 1), 1);
        CHECK.due("pass to the end", CHECK.house.pass(65530), 1);
        CHECK.due("it is barred", CHECK.house.remind(1), 0);
        house();
        CHECK.facts("person 1 n is 5;");
        CHECK.due("pass", CHECK.house.pass(65490), 0);
        CHECK.due("decide", CHECK.house.decide(1, Check.TAX, TODAY, 1), 0);
        CHECK.due("pass", CHECK.house.pass(65522), 1);
        CHECK.due("its due is over", CHECK.house.remind(1), -18);
        CHECK.due("nothing happens", CHECK.house.booking(0, 7), 0);
        CHECK.due("none of another", CHECK.house.remind(2), 0);
    }

    private static void bars() {
        house();
        CHECK.facts("person 1 n is 5;");
        CHECK.due("bar", CHECK.house.dues(0, 2), 1);
        CHECK.due("decide", CHECK.house.decide(1, Check.TAX, TODAY, 2), 0);
        CHECK.due("pass", CHECK.house.pass(TODAY + 20), 0);
        CHECK.due("remind of the first", CHECK.house.remind(1), 1);
        int due = (int) CHECK.house.booking(1, 4);
        CHECK.due("due", due, Check.day(2000, 2, 1));
        CHECK.due("pass", CHECK.house.pass(Check.day(2000, 3, 21)), 1);
        CHECK.due("two months from the reminder", CHECK.house.booking(0, 9), 0);
        CHECK.due("pass", CHECK.house.pass(Check.day(2000, 3, 22)), 0);
        CHECK.due("and a day", CHECK.house.booking(0, 9), 1);
        CHECK.due("what is open stays", CHECK.house.booking(0, 6), 500);
        CHECK.due("the other is not yet", CHECK.house.booking(1, 9), 0);
        CHECK.due("pay", CHECK.house.pay(1, 700), 200);
        CHECK.due("the other is paid", CHECK.house.booking(1, 6), 0);
        CHECK.due("what is barred is not", CHECK.house.booking(0, 6), 500);
        CHECK.due("no reminder of it", CHECK.house.remind(1), 0);
        CHECK.due("pass", CHECK.house.pass(Check.day(2001, 1, 1)), 0);
        CHECK.due("what is paid is not barred", CHECK.house.booking(1, 9), 0);
        CHECK.due("a longer bar", CHECK.house.dues(0, 600), 1);
        CHECK.due("pass", CHECK.house.pass(Check.day(2001, 1, 2)), 0);
        CHECK.due("what is barred stays so", CHECK.house.booking(0, 9), 1);
    }

    private static void room() {
        house();
        for (int i = 0; i < 16; i++) {
            CHECK.due("decide", CHECK.house.decide(1, Check.TAX, TODAY, 24), i);
        }
        CHECK.due("bookings", CHECK.house.count(6), 384);
        CHECK.due("too many bookings", CHECK.house.decide(1, Check.TAX, TODAY, 17), FULL);
        for (int i = 16; i < 30; i++) {
            CHECK.due("decide", CHECK.house.decide(1, Check.TAX, TODAY, 1), i);
        }
        CHECK.due("too many decisions", CHECK.house.decide(1, Check.TAX, TODAY, 1), FULL);
        CHECK.facts("person 1 n is 1;");
        CHECK.due("too many revised", CHECK.house.revise(0), FULL);
        CHECK.due("nothing happens", CHECK.house.amount(0, 0), 0);
        CHECK.due("object", CHECK.house.object(1), 1);
        CHECK.due("too many by an answer", CHECK.house.answer(1, true), FULL);
        CHECK.due("it stays objected", CHECK.house.decision(1, 4), 1);
        CHECK.due("a small one", CHECK.house.revise(16), 1);
        CHECK.due("another one", CHECK.house.revise(17), 1);
        CHECK.due("the last booking", CHECK.house.count(6), 400);
        CHECK.due("no more", CHECK.house.revise(18), FULL);
        CHECK.due("pass", CHECK.house.pass(TODAY + 100), 29);
        CHECK.due("no reminders", CHECK.house.remind(1), FULL);
        CHECK.due("nothing happens", CHECK.house.booking(398, 7), 0);
    }
}
