/** Decisions that go on for long: what is revised, paid, reminded of and barred hangs together (VI, promises 28 to 40). */
public final class DealingsTest {
    private static final int NONE = -1;
    private static final int STATE = -3;
    private static final int UNKNOWN = 6;
    private static final int LAST = Check.LAST;
    /** 1 March 2000, a Wednesday. */
    private static final int MARCH = Check.day(2000, 3, 1);
    private static final Check CHECK = new Check();

    public static void main(String[] args) {
        manyMonths();
        faultsOfLaterMonths();
        peopleApart();
        severalDecisions();
        creditAheadOfDecisions();
        objectionsBehindRevisions();
        objectedOnesArePaid();
        smallSumsAndFees();
        barsOfAllSorts();
        accountsOfWhatIsBarred();
        barsAndCredit();
        holidaysToldLater();
        CHECK.end("DealingsTest");
    }

    private static void booking(int i, long... want) {
        for (int what = 0; what < want.length; what++) {
            CHECK.due("booking " + i + ", " + what, CHECK.house.booking(i, what), want[what]);
        }
    }

    private static void tells(int person, int name, long first) {
        int before = CHECK.house.count(3);
        CHECK.due("fact", CHECK.house.fact(person, name, first, 0, 0, LAST), before + 1);
    }

    /** PEOPLE who each pay as they are told to, on 1 March 2000. */
    private static void house(int people) {
        CHECK.furnished(people);
        CHECK.law("tax is pay;");
        CHECK.due("pass", CHECK.house.pass(MARCH), 0);
    }

    private static void decides(int person, int first, int months, int want) {
        CHECK.due("decide", CHECK.house.decide(person, Check.TAX, first, months), want);
    }

    private static void amounts(int decision, long... want) {
        for (int month = 0; month < want.length; month++) {
            CHECK.due("amount " + decision + ", " + month, CHECK.house.amount(decision, month), want[month]);
        }
        CHECK.due("amount behind", CHECK.house.amount(decision, want.length), Long.MIN_VALUE);
    }

    /** Each of 24 months is reckoned on its own FIRST, when it is decided and when it is revised. */
    private static void manyMonths() {
        CHECK.furnished(1);
        StatuteHouse house = CHECK.house;
        CHECK.law("tax is pay * (yearof(day) - 2000) + 1.00 * monthof(day);");
        CHECK.due("pass", house.pass(MARCH), 0);
        tells(1, Check.PAY, 10000);
        decides(1, MARCH, 24, 0);
        for (int turn = 0; turn < 2; turn++) {
            for (int month = 0; month < 24; month++) {
                int year = (month + 2) / 12;
                int ofYear = (month + 2) % 12 + 1;
                CHECK.due("amount of " + month, house.amount(0, month), (turn + 1) * 10000 * year + 100 * ofYear);
            }
            tells(1, Check.PAY, 20000);
            CHECK.due("those of later years change", house.revise(0), turn == 0 ? 14 : 0);
        }
        CHECK.due("bookings", house.count(6), 24 + 14);
        booking(24, 1, 0, 10, 10000, MARCH, 1, 10000);
        booking(37, 1, 0, 23, 20000, MARCH, 1, 20000);
        booking(23, 1, 0, 23, 20000 + 200, Check.day(2002, 2, 1), 0, 20200);
    }

    /** A FAULT in any month: nothing happens. */
    private static void faultsOfLaterMonths() {
        CHECK.furnished(1);
        StatuteHouse house = CHECK.house;
        CHECK.law("tax is 100.00 * part;");
        CHECK.due("pass", house.pass(MARCH), 0);
        int april = Check.day(2000, 4, 1);
        CHECK.due("part", house.fact(1, Check.PART, 1, 2, MARCH, april), 1);
        CHECK.due("the third month is unknown", house.decide(1, Check.TAX, MARCH, 3), -10 - UNKNOWN);
        CHECK.due("its day", house.failed(3), Check.day(2000, 5, 1));
        CHECK.due("no decision", house.count(5), 0);
        CHECK.due("no booking", house.count(6), 0);
        decides(1, MARCH, 2, 0);
        CHECK.due("more", house.fact(1, Check.PART, 3, 4, MARCH, MARCH), 2);
        CHECK.due("unknown now", house.withdraw(1, Check.PART, april, april), 3);
        CHECK.due("revise", house.revise(0), -10 - UNKNOWN);
        CHECK.due("object", house.object(0), 1);
        CHECK.due("answer", house.answer(0, true), -10 - UNKNOWN);
        CHECK.due("still objected", house.decision(0, 4), 1);
        amounts(0, 5000, 5000);
        CHECK.due("bookings", house.count(6), 2);
        CHECK.due("known again", house.fact(1, Check.PART, 1, 2, april, april), 4);
        CHECK.due("answer now", house.answer(0, true), 1);
        amounts(0, 7500, 5000);
    }

    /** What one PERSON owes, pays and has as CREDIT is of no other one. */
    private static void peopleApart() {
        house(6);
        StatuteHouse house = CHECK.house;
        for (int person = 1; person <= 6; person++) {
            tells(person, Check.PAY, person * 100 - 350);
            decides(person, MARCH, 1, person - 1);
        }
        for (int person = 0; person <= 6; person++) {
            CHECK.due("credit of " + person, house.credit(person), person > 0 && person < 4 ? 350 - person * 100 : 0);
            CHECK.due("account of " + person, house.account(person, MARCH), person > 0 ? person * 100 - 350 : 0);
        }
        CHECK.due("pay", house.pay(5, 200), 50);
        CHECK.due("pay for none", house.pay(0, 30), 30);
        booking(3, 4, 3, 0, 50, MARCH, 0, 50);
        booking(4, 5, 4, 0, 150, MARCH, 0, 0);
        booking(5, 6, 5, 0, 250, MARCH, 0, 250);
        CHECK.due("pass", house.pass(MARCH + 15), 0);
        CHECK.due("remind one", house.remind(6), 1);
        CHECK.due("one that owes nothing", house.remind(5), 0);
        booking(6, 6, 5, 0, 500, Check.day(2000, 3, 30), 3, 500);
        CHECK.due("not reminded", house.booking(3, 7), 0);
    }

    /** The least DUE first, of several the first, over all DECISIONS of a PERSON. */
    private static void severalDecisions() {
        house(1);
        StatuteHouse house = CHECK.house;
        tells(1, Check.PAY, 100);
        decides(1, Check.day(2000, 5, 1), 1, 0);
        decides(1, Check.day(2000, 4, 1), 2, 1);
        decides(1, Check.day(2000, 4, 1), 1, 2);
        int may = Check.day(2000, 5, 1);
        int april = Check.day(2000, 4, 3);
        int[] dues = {may, april, may, april};
        int[] order = {1, 3, 0, 2};
        for (int i = 0; i < 4; i++) {
            booking(i, 1, i == 0 ? 0 : i == 3 ? 2 : 1, i == 2 ? 1 : 0, 100, dues[i], 0, 100);
        }
        for (int paid = 0; paid < 4; paid++) {
            CHECK.due("pay", house.pay(1, 60), 0);
            CHECK.due("some of it", house.booking(order[paid], 6), 40);
            CHECK.due("pay the rest", house.pay(1, 40), 0);
            for (int i = 0; i < 4; i++) {
                CHECK.due("open of " + order[i], house.booking(order[i], 6), i <= paid ? 0 : 100);
            }
        }
        CHECK.due("no more", house.pay(1, 7), 7);
    }

    /** CREDIT that is there settles what is booked later. */
    private static void creditAheadOfDecisions() {
        house(1);
        StatuteHouse house = CHECK.house;
        CHECK.due("pay", house.pay(1, 250), 250);
        tells(1, Check.PAY, 100);
        decides(1, MARCH, 2, 0);
        CHECK.due("credit", house.credit(1), 50);
        booking(0, 1, 0, 0, 100, MARCH, 0, 0);
        booking(1, 1, 0, 1, 100, Check.day(2000, 4, 3), 0, 0);
        tells(1, Check.PAY, 180);
        CHECK.due("revise", house.revise(0), 2);
        CHECK.due("credit is gone", house.credit(1), 0);
        booking(2, 1, 0, 0, 80, MARCH, 1, 30);
        booking(3, 1, 0, 1, 80, MARCH, 1, 80);
        tells(1, Check.PAY, 90);
        CHECK.due("less", house.revise(0), 2);
        booking(4, 1, 0, 0, -90, MARCH, 1, 0);
        booking(5, 1, 0, 1, -90, MARCH, 1, 0);
        CHECK.due("what is less settles", house.credit(1), 70);
        CHECK.due("all is settled", house.booking(3, 6), 0);
    }

    /** A DECISION that was revised is OPEN still, if it was. */
    private static void objectionsBehindRevisions() {
        house(1);
        StatuteHouse house = CHECK.house;
        tells(1, Check.PAY, 100);
        decides(1, MARCH, 1, 0);
        for (int i = 2; i < 12; i++) {
            tells(1, Check.PAY, i * 100);
            CHECK.due("revise " + i, house.revise(0), 1);
        }
        CHECK.due("object", house.object(0), 1);
        CHECK.due("object again", house.object(0), STATE);
        CHECK.due("revise", house.revise(0), STATE);
        CHECK.due("answer", house.answer(0, false), 0);
        CHECK.due("object to a final one", house.object(0), STATE);
        CHECK.due("answer again", house.answer(0, true), STATE);
        CHECK.due("revise a final one", house.revise(0), 0);
    }

    /** What is OBJECTED is due, paid and reminded of like all else. */
    private static void objectedOnesArePaid() {
        house(1);
        StatuteHouse house = CHECK.house;
        tells(1, Check.PAY, 100);
        decides(1, MARCH, 1, 0);
        CHECK.due("object", house.object(0), 1);
        CHECK.due("pay", house.pay(1, 30), 0);
        CHECK.due("open", house.booking(0, 6), 70);
        CHECK.due("pass", house.pass(MARCH + 15), 0);
        CHECK.due("remind", house.remind(1), 1);
        CHECK.due("bar", house.dues(500, 1), 1);
        CHECK.due("pass far", house.pass(Check.day(2001, 3, 1)), 0);
        CHECK.due("barred, though objected to", house.booking(0, 9), 1);
        CHECK.due("still objected", house.decision(0, 4), 1);
    }

    /** A FEE is as told, however little is OPEN. */
    private static void smallSumsAndFees() {
        house(1);
        StatuteHouse house = CHECK.house;
        tells(1, Check.PAY, 1);
        decides(1, MARCH, 1, 0);
        CHECK.due("dues", house.dues(100000, 60), 1);
        int[] days = {MARCH + 15, MARCH + 30, MARCH + 45};
        for (int i = 0; i < 3; i++) {
            CHECK.due("pass", house.pass(days[i]), i == 2 ? 1 : 0);
            CHECK.due("remind", house.remind(1), 1);
            CHECK.due("again that day", house.remind(1), 0);
            CHECK.due("fee", house.booking(i + 1, 3), (i + 1) * 100000);
            CHECK.due("reminders", house.booking(0, 7), i + 1);
            CHECK.due("the latest", house.booking(0, 8), days[i]);
        }
        CHECK.due("pass once more", house.pass(MARCH + 60), 0);
        CHECK.due("three at most", house.remind(1), 0);
    }

    /** Interest and FEES that are OPEN are BARRED like what is decided; what is settled is not. */
    private static void barsOfAllSorts() {
        house(1);
        StatuteHouse house = CHECK.house;
        tells(1, Check.PAY, 0);
        decides(1, MARCH, 1, 0);
        CHECK.due("dues", house.dues(200, 3), 1);
        CHECK.due("pass", house.pass(Check.day(2000, 5, 2)), 1);
        tells(1, Check.PAY, 10000);
        CHECK.due("revise", house.revise(0), 1);
        booking(1, 1, 0, 0, 10000, Check.day(2000, 5, 2), 1, 10000);
        booking(2, 1, 0, 0, 100, Check.day(2000, 5, 2), 2, 100);
        CHECK.due("pass a little", house.pass(Check.day(2000, 5, 17)), 0);
        CHECK.due("remind", house.remind(1), 2);
        booking(3, 1, 0, 0, 200, Check.day(2000, 5, 31), 3, 200, 0, NONE, 0);
        int[] days = {Check.day(2000, 8, 17), Check.day(2000, 8, 18), Check.day(2000, 8, 31), Check.day(2000, 9, 1)};
        int[][] want = {{0, 0, 0, 0, 0}, {0, 1, 1, 0, 0}, {0, 1, 1, 0, 0}, {0, 1, 1, 1, 1}};
        for (int i = 0; i < days.length; i++) {
            CHECK.due("pass on", house.pass(days[i]), 0);
            for (int booking = 0; booking < 5; booking++) {
                CHECK.due("barred " + booking + " on " + days[i], house.booking(booking, 9), want[i][booking]);
            }
        }
        CHECK.due("nothing may be settled", house.pay(1, 500), 500);
        CHECK.due("nor reminded of", house.remind(1), 0);
    }

    /** The account sums up all BOOKINGS, also what is BARRED or paid. */
    private static void accountsOfWhatIsBarred() {
        barsOfAllSorts();
        StatuteHouse house = CHECK.house;
        CHECK.due("all", house.account(1, LAST), 10000 + 100 + 200 + 200);
        CHECK.due("ahead of fees", house.account(1, Check.day(2000, 5, 30)), 10100);
        CHECK.due("ahead of all but 0", house.account(1, Check.day(2000, 5, 1)), 0);
        CHECK.due("any number", house.account(1, Integer.MAX_VALUE), 10500);
        CHECK.due("any number, below 0", house.account(1, Integer.MIN_VALUE), 0);
    }

    /** CREDIT that BARRED ones left settles what is booked next. */
    private static void barsAndCredit() {
        barsOfAllSorts();
        StatuteHouse house = CHECK.house;
        tells(1, Check.PAY, 10300);
        CHECK.due("revise", house.revise(0), 1);
        CHECK.due("sort", house.booking(5, 5), 1);
        CHECK.due("more", house.booking(5, 3), 300);
        CHECK.due("settled", house.booking(5, 6), 0);
        CHECK.due("interest of six months", house.booking(6, 3), 9);
        CHECK.due("settled, too", house.booking(6, 6), 0);
        CHECK.due("what is left", house.credit(1), 500 - 300 - 9);
        CHECK.due("what is barred stays open", house.booking(1, 6), 10000);
    }

    /** HOLIDAYS that are told later leave what was booked, and ENDS, as they are. */
    private static void holidaysToldLater() {
        house(1);
        StatuteHouse house = CHECK.house;
        tells(1, Check.PAY, 100);
        decides(1, MARCH, 1, 0);
        CHECK.due("holidays", CHECK.holidays("1 3; 3 4; 2 3;"), 3);
        booking(0, 1, 0, 0, 100, MARCH, 0, 100);
        CHECK.due("ends", house.decision(0, 5), Check.day(2000, 4, 3));
        CHECK.due("due now", house.due(MARCH, 0, 0), Check.day(2000, 3, 3));
        decides(1, MARCH, 1, 1);
        booking(1, 1, 1, 0, 100, Check.day(2000, 3, 3), 0, 100);
        CHECK.due("ends then", house.decision(1, 5), Check.day(2000, 4, 4));
        tells(1, Check.PAY, 200);
        CHECK.due("revise", house.revise(0), 1);
        booking(2, 1, 0, 0, 100, Check.day(2000, 3, 3), 1, 100);
        CHECK.due("none any more", CHECK.holidays(""), 0);
        CHECK.due("due then", house.due(MARCH, 0, 0), MARCH);
    }
}
