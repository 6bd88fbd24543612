/** Promises 41 to 46: drafts, and laws tried on all PEOPLE. */
public final class DraftsTest {
    private static final int NONE = -1;
    private static final int RANGE = -2;
    private static final int FULL = -4;
    private static final int TODAY = Check.TODAY;
    private static final Check CHECK = new Check();

    public static void main(String[] args) {
        fork();
        adopt();
        fullLaws();
        measure();
        measureOfNone();
        forecast();
        CHECK.end("DraftsTest");
    }

    private static void reckons(int law, int day, int known, int kind, long value) {
        String what = "law " + law + " day " + day + " known " + known;
        CHECK.due(what, CHECK.house.reckon(law, Check.TAX, 1, day, known), kind);
        if (kind >= 0) {
            CHECK.due(what, CHECK.house.value(0), value);
        }
    }

    private static void fork() {
        CHECK.furnished(1);
        CHECK.due("law 0 is none", CHECK.house.fork(0), RANGE);
        CHECK.due("no draft", CHECK.house.fork(4), RANGE);
        CHECK.due("of nothing", CHECK.house.fork(1), 0);
        CHECK.law("tax is 1.00;");
        CHECK.due("pass", CHECK.house.pass(TODAY + 5), 0);
        CHECK.due("fork", CHECK.house.fork(1), 1);
        CHECK.due("has it", CHECK.house.count(9), 1);
        // told there as in LAW 0
        reckons(1, TODAY, TODAY, 2, 100);
        CHECK.due("a draft", CHECK.enact(1, "amend 1 { put 1: tax is 2.00; }"), 1);
        reckons(1, TODAY + 5, TODAY + 5, 2, 200);
        reckons(0, TODAY + 5, TODAY + 5, 2, 100);
        reckons(2, TODAY + 5, TODAY + 5, -11, 0);
        CHECK.due("again", CHECK.house.fork(1), 1);
        reckons(1, TODAY + 5, TODAY + 5, 2, 100);
    }

    private static void adopt() {
        CHECK.furnished(1);
        CHECK.due("law 0 is none", CHECK.house.adopt(0), RANGE);
        CHECK.due("no draft", CHECK.house.adopt(-1), RANGE);
        CHECK.due("nothing", CHECK.house.adopt(2), 0);
        CHECK.law("tax is 1.00;");
        CHECK.due("never forked", CHECK.enact(3, "article 9 from 1990-01-01 { kids is 9; }"), 1);
        CHECK.due("fork", CHECK.house.fork(2), 1);
        CHECK.due("a draft", CHECK.enact(2, "amend 1 from 1999-01-01 { put 1: tax is 2.00; } article 2 {}"), 2);
        CHECK.due("pass", CHECK.house.pass(TODAY + 5), 0);
        CHECK.due("adopt", CHECK.house.adopt(2), 2);
        CHECK.due("versions", CHECK.house.count(8), 3);
        CHECK.due("in the draft they stay", CHECK.house.count(10), 3);
        CHECK.due("not twice", CHECK.house.adopt(2), 0);
        // in LAW 0 they are told today, in the DRAFT as they were
        reckons(0, TODAY, TODAY + 4, 2, 100);
        reckons(0, TODAY, TODAY + 5, 2, 200);
        reckons(2, TODAY, TODAY + 4, 2, 200);
        CHECK.due("more in the draft", CHECK.enact(2, "article 3 { void; }"), 1);
        CHECK.due("that alone", CHECK.house.adopt(2), 1);
        CHECK.due("ever", CHECK.house.adopt(3), 1);
        CHECK.due("kids", CHECK.house.reckon(0, Check.KIDS, 1, TODAY, TODAY + 5), 1);
        CHECK.due("are nine", CHECK.house.value(0), 9);
        CHECK.due("versions", CHECK.house.count(8), 5);
    }

    /** The 201st VERSION ever is refused, so that a LAW comes to 200, but to no more. */
    private static void fullLaws() {
        CHECK.furnished(1);
        String thirty = "article 1 {} ".repeat(30);
        for (int i = 1; i <= 6; i++) {
            CHECK.due("thirty", CHECK.enact(i % 2, thirty), 30);
        }
        CHECK.due("some", CHECK.enact(1, "article 1 {} ".repeat(20)), 20);
        CHECK.due("one more", CHECK.enact(0, "article 1 {}"), NONE);
        CHECK.due("no room", CHECK.house.fault(0), 4);
        CHECK.due("at the word", CHECK.house.fault(1), 0);
        CHECK.due("not in a draft either", CHECK.enact(3, "amend 1 {}"), NONE);
        CHECK.due("no room", CHECK.house.fault(0), 4);
        CHECK.due("adopt", CHECK.house.adopt(1), 110);
        CHECK.due("all", CHECK.house.count(8), 200);
        CHECK.due("fork", CHECK.house.fork(3), 200);
        CHECK.due("none to adopt", CHECK.house.adopt(3), 0);
        CHECK.due("FULL is not come to", CHECK.house.adopt(1) == FULL ? 1 : 0, 0);
    }

    private static void measured(long... want) {
        for (int what = 0; what < want.length; what++) {
            CHECK.due("measured " + what, CHECK.house.measured(what), want[what]);
        }
        CHECK.due("measured 12", CHECK.house.measured(12), 0);
        CHECK.due("measured -1", CHECK.house.measured(-1), 0);
    }

    private static void measure() {
        CHECK.furnished(5);
        CHECK.law("tax is pay when n < 9;");
        CHECK.facts("person 0 pay is 1000.00; person 1 pay is 30.00; person 2 pay is 10.00; person 3 pay is 20.00;"
                + "person 4 pay is 5.00; person 5 pay is 99.00; person 5 n is 9;");
        CHECK.due("fork", CHECK.house.fork(1), 1);
        CHECK.due("draft", CHECK.enact(1, "amend 1 { put 1: tax is pay + 7.00 when pay < 10.00;"
                + " add tax is pay - 1.00 when pay > 10.00; add tax is pay when pay = 10.00; }"), 1);
        CHECK.due("no term", CHECK.house.measure(0, 1, Check.KIDS, TODAY), NONE);
        CHECK.due("no law", CHECK.house.measure(4, 1, Check.TAX, TODAY), RANGE);
        CHECK.due("no other", CHECK.house.measure(0, 4, Check.TAX, TODAY), RANGE);
        CHECK.due("no other below", CHECK.house.measure(0, -2, Check.TAX, TODAY), RANGE);
        CHECK.due("no day", CHECK.house.measure(0, 1, Check.TAX, -1), RANGE);
        CHECK.due("weight", CHECK.house.weight(1, Float.floatToRawIntBits(0.1f)), 1);
        CHECK.due("alone", CHECK.house.measure(0, NONE, Check.TAX, TODAY), 4);
        double weight = 0.1f;
        double mean = (0.0 + weight * 3000 + 1000 + 2000 + 500) / (0.0 + weight + 1 + 1 + 1);
        double apart = (2000 + 1000 + 2500 + 1000 + 500 + 1500) / 4.0 / 6500;
        measured(4, 1, 6500, 500, 3000, 1000, Check.bits(mean), Check.bits(apart), 0, 0, 0, 0);
        CHECK.due("with another", CHECK.house.measure(0, 1, Check.TAX, TODAY), 4);
        measured(4, 1, 6500, 500, 3000, 1000, Check.bits(mean), Check.bits(apart), 1, 2, 700, 200);
        CHECK.due("the other way", CHECK.house.measure(1, 0, Check.TAX, TODAY), 4);
        measured(4, 1, 7000, 1000, 2900, 1200);
        CHECK.due("refused", CHECK.house.measure(4, 0, Check.TAX, TODAY), RANGE);
        CHECK.due("stays", CHECK.house.measured(2), 7000);
        CHECK.due("no reasons", CHECK.house.count(13), 0);
        CHECK.due("the latest fault", CHECK.house.failed(2), 5);
        CHECK.due("two facts less", CHECK.facts("person 1 pay is - 15.00; person 3 pay is - 10.00;"), 2);
        CHECK.due("sum not above 0", CHECK.house.measure(0, NONE, Check.TAX, TODAY), 4);
        CHECK.due("sum", CHECK.house.measured(2), -1000);
        CHECK.due("least", CHECK.house.measured(3), -1500);
        CHECK.due("no measure of that", CHECK.house.measured(7), 0);
    }

    private static void measureOfNone() {
        CHECK.furnished(2);
        CHECK.due("none have one", CHECK.house.measure(0, 1, Check.TAX, TODAY), 0);
        measured(0, 2, 0, 0, 0, 0, 0, 0, 0, 0, 0, 0);
        CHECK.law("tax is 1.00;");
        CHECK.due("none by both", CHECK.house.measure(0, 1, Check.TAX, TODAY), 0);
        measured(0, 2, 0, 0, 0, 0, 0, 0, 0, 0, 0, 0);
        CHECK.due("steps of the first alone", CHECK.house.count(12), 4);
    }

    private static void forecast() {
        CHECK.furnished(3);
        CHECK.law("tax is pay when not flag;");
        CHECK.facts("person 0 pay is 100.00; person 1 pay is 1.00; person 2 pay is 2.00 from 2000-02-01;"
                + "person 3 pay is 4.00; person 3 flag is true from 2000-03-01;");
        CHECK.due("no term", CHECK.house.forecast(0, Check.YES, TODAY, 1), NONE);
        CHECK.due("no law", CHECK.house.forecast(-1, Check.TAX, TODAY, 1), RANGE);
        CHECK.due("no first", CHECK.house.forecast(0, Check.TAX, TODAY + 1, 1), RANGE);
        CHECK.due("no months", CHECK.house.forecast(0, Check.TAX, TODAY, 0), RANGE);
        CHECK.due("too many", CHECK.house.forecast(0, Check.TAX, TODAY, 61), RANGE);
        CHECK.due("beyond", CHECK.house.forecast(0, Check.TAX, Check.day(2079, 1, 1), 7), RANGE);
        CHECK.due("just not", CHECK.house.forecast(0, Check.TAX, Check.day(2079, 1, 1), 6), 6);
        CHECK.due("forecast", CHECK.house.forecast(0, Check.TAX, TODAY, 3), 3);
        long[][] want = {{500, 3}, {700, 3}, {300, 2}, {0, 0}};
        for (int month = 0; month < 4; month++) {
            CHECK.due("sum " + month, CHECK.house.forecasted(month, 0), want[month][0]);
            CHECK.due("how many " + month, CHECK.house.forecasted(month, 1), want[month][1]);
        }
        CHECK.due("no such what", CHECK.house.forecasted(0, 2), 0);
        CHECK.due("no month", CHECK.house.forecasted(-1, 0), 0);
    }
}
