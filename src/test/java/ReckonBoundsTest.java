/** The bounds that "Terms" V and promises 19 to 27 name: RECORDS, RULES, RING, DEEP, LONG, LINES, changes and solving. */
public final class ReckonBoundsTest {
    private static final int NONE = -1;
    private static final int RANGE = -2;
    private static final int COUNT = 1;
    private static final int MONEY = 2;
    private static final int DEEP = 4;
    private static final int LONG = 5;
    private static final int TODAY = Check.TODAY;
    private static final int LAST = Check.LAST;
    /** 500 STEPS: a RULE, over and its two DATES, and 31 PARTS on each of 16 FIRSTS. */
    private static final String EIGHT = "(1.00" + " + 1.00".repeat(7) + ")";
    private static final String LONG_SUM = "over(" + EIGHT + " + " + EIGHT + ", 2000-01-01, 2001-04-30)";
    private static final Check CHECK = new Check();

    public static void main(String[] args) {
        recordsAndDays();
        suppositions();
        howManyHold();
        exceptionsInForce();
        rings();
        depth();
        exceptionsDeep();
        stepsOfQuestions();
        stepsOfReckonings();
        stepsOfChanges();
        stepsOfMeasures();
        stepsOfForecasts();
        stepsOfDecisions();
        stepsOfSolving();
        lines();
        tellingMuch();
        failures();
        values();
        changes();
        solving();
        CHECK.end("ReckonBoundsTest");
    }

    private static void n(int day, int known, long want) {
        CHECK.feed("n");
        int kind = CHECK.house.ask(0, 1, day, known);
        CHECK.due("n on " + day + " known " + known, kind == COUNT ? CHECK.house.value(0) : kind, want);
    }

    /** From a DAY to a DAY, both with it; TOLD not behind k; the last one tells it. */
    private static void recordsAndDays() {
        CHECK.furnished(1);
        StatuteHouse house = CHECK.house;
        n(TODAY, LAST, 0);
        CHECK.due("of some days", house.fact(1, Check.N, 5, 0, 100, 200), 1);
        n(99, LAST, 0);
        n(100, LAST, 5);
        n(200, LAST, 5);
        n(201, LAST, 0);
        n(100, TODAY - 1, 0);
        n(100, TODAY, 5);
        CHECK.due("of one day", house.fact(1, Check.N, 6, 0, 150, 150), 2);
        n(149, LAST, 5);
        n(150, LAST, 6);
        n(151, LAST, 5);
        CHECK.due("of all days", house.fact(1, Check.N, 7, 0, 0, LAST), 3);
        n(0, LAST, 7);
        n(LAST, LAST, 7);
        n(150, LAST, 7);
        CHECK.due("pass", house.pass(TODAY + 1), 0);
        CHECK.due("withdrawn", house.withdraw(1, Check.N, 150, 150), 4);
        n(150, LAST, 0);
        n(150, TODAY, 7);
        n(149, LAST, 7);
        CHECK.feed("has(n)");
        CHECK.due("a record tells it", house.ask(0, 1, 149, LAST), 0);
        CHECK.due("it does", house.value(0), 1);
        CHECK.feed("has(n)");
        CHECK.due("withdrawn it has none", house.ask(0, 1, 150, LAST), 0);
        CHECK.due("none", house.value(0), 0);
        CHECK.due("without an else", house.withdraw(1, Check.PART, 0, LAST), 5);
        CHECK.fails("part", 6);
    }

    private static void suppositions() {
        CHECK.furnished(1);
        StatuteHouse house = CHECK.house;
        CHECK.due("fact", house.fact(1, Check.N, 5, 0, 0, LAST), 1);
        CHECK.due("suppose", house.suppose(1, Check.N, 9, 0), 1);
        n(0, 0, 9);
        n(LAST, LAST, 9);
        CHECK.due("withdrawn all the same", house.withdraw(1, Check.N, 0, LAST), 2);
        n(TODAY, LAST, 9);
        CHECK.value("has(n)", 0, 1, 0);
        CHECK.value("has(n) on 1900-01-01", 0, 1, 0);
        CHECK.due("forget", house.forget(), 1);
        CHECK.due("forget nothing", house.forget(), 0);
        n(TODAY, LAST, 0);
    }

    private static void kids(int want) {
        int kind = CHECK.house.reckon(0, Check.KIDS, 1, TODAY, LAST);
        CHECK.due("kids", kind == COUNT ? CHECK.house.value(0) : kind, want);
    }

    /** None, one, two that HOLD; the second is worked out, those behind it not. */
    private static void howManyHold() {
        CHECK.furnished(1);
        CHECK.law("kids is 1 when n = 1 or n = 3; kids is 2 when n = 2 or n = 3; kids is whole(1 / 0) when n = 3 or n = 4;"
                + "tax is 1.00 when n = 1;");
        int[] want = {-1, 1, 2, -12, -17};
        // the TERM, its RULES that are worked out, and one or two questions for n in each
        int[] lines = {1 + 3 + 6, 1 + 3 + 5, 1 + 3 + 5, 1 + 2 + 4, 1 + 3 + 6};
        for (int n = 0; n < 5; n++) {
            CHECK.house.suppose(1, Check.N, n, 0);
            kids(want[n]);
            CHECK.due("lines for " + n, CHECK.house.count(13), lines[n]);
        }
        CHECK.due("no else", CHECK.house.reckon(0, Check.TAX, 1, TODAY, LAST), -11);
    }

    /** RULES that except what is not in force, or of another TERM, or in a ring, are not worked out. */
    private static void exceptionsInForce() {
        CHECK.furnished(1);
        CHECK.law("kids is 1; except 1/1: kids is 2 when n >= 2; except 1/2: kids is 3 when n = 3; except 1/1: kids is 4 when n = 4;"
                + "except 1/9: kids is whole(1 / 0); except 1/7: kids is whole(1 / 0); except 1/6: kids is whole(1 / 0);"
                + "except 1/8: kids is whole(1 / 0); yes is true; except 1/9: kids is whole(1 / 0); except 2/1: kids is 9;"
                + "except 1a/1: kids is 9; except 1/99: kids is 9;");
        int[] want = {1, 1, 2, 3, -12};
        for (int n = 0; n < 5; n++) {
            CHECK.house.suppose(1, Check.N, n, 0);
            kids(want[n]);
        }
        CHECK.due("now there is a second article", CHECK.enact(0, "article 2 { kids is 8 when n = 7; }"), 1);
        kids(-12);
        CHECK.house.suppose(1, Check.N, 7, 0);
        // 1/1 gives way to 1/2, and 2/1 to 1/11
        kids(-12);
        CHECK.due("its exception alone", CHECK.house.failed(5), 0);
    }

    private static void rings() {
        CHECK.furnished(2);
        CHECK.law("kids is if(n = 0, kids, if(n = 1, kids of parent, kids on (day + 1 days)));"
                + "tax is whole_tax; whole_tax is tax;");
        CHECK.due("itself", CHECK.house.reckon(0, Check.KIDS, 1, TODAY, LAST), -13);
        CHECK.due("of the term", CHECK.house.failed(1), Check.KIDS);
        CHECK.due("of the rule", CHECK.house.failed(5), 1);
        CHECK.due("one line of the term", CHECK.house.count(13), 3);
        CHECK.due("by another", CHECK.house.reckon(0, Check.TAX, 1, TODAY, LAST), -13);
        CHECK.due("the innermost", CHECK.house.failed(1), Check.WHOLE_TAX);
        // of another PERSON it is no ring, till that one comes to the first
        CHECK.facts("person 1 n is 1; person 1 parent is 2; person 2 n is 1; person 2 parent is 1;");
        CHECK.due("in a circle of two", CHECK.house.reckon(0, Check.KIDS, 1, TODAY, LAST), -13);
        CHECK.due("of the other", CHECK.house.failed(2), 2);
        CHECK.facts("person 1 n is 2 until 2000-01-03; person 1 n is 5 from 2000-01-04; person 1 n is 0 from 2000-01-05;");
        CHECK.due("on another day it is none", CHECK.house.reckon(0, Check.KIDS, 1, TODAY, LAST), -13);
        CHECK.due("till one comes to itself", CHECK.house.failed(3), TODAY + 4);
    }

    /** t1 names t2 and so on up to t13; RING is told ahead of DEEP. */
    private static void depth() {
        CHECK.fresh();
        StringBuilder names = new StringBuilder("fact f: count else 0;");
        StringBuilder law = new StringBuilder();
        for (int i = 1; i <= 13; i++) {
            names.append("term t").append(i).append(": count;");
            law.append("t").append(i).append(" is ").append(i < 13 ? "t" + (i + 1) : "if(f = 0, 5, t2)").append(";");
        }
        CHECK.due("names", CHECK.names(names.toString()), 14);
        CHECK.law(law.toString());
        StatuteHouse house = CHECK.house;
        CHECK.due("twelve", house.reckon(0, 2, 0, TODAY, LAST), COUNT);
        CHECK.due("they are", house.value(0), 5);
        CHECK.due("the depth of the last fact", house.why(house.count(13) - 1, 1), 12);
        CHECK.due("thirteen", house.reckon(0, 1, 0, TODAY, LAST), -10 - DEEP);
        CHECK.due("the innermost is the twelfth", house.failed(1), 12);
        CHECK.due("its rule", house.failed(5), 12);
        CHECK.due("lines of twelve", house.count(13), 24);
        CHECK.due("a ring and a thirteenth", house.suppose(0, 0, 1, 0), 1);
        CHECK.due("the least is told", house.reckon(0, 2, 0, TODAY, LAST), -13);
        CHECK.due("a question's terms", CHECK.ask("t2", 0, TODAY), -13);
        CHECK.due("twelve of a question", house.forget(), 1);
        CHECK.due("are not too deep", CHECK.ask("t2", 0, TODAY), COUNT);
        CHECK.due("thirteen are", CHECK.ask("t1", 0, TODAY), -10 - DEEP);
        // one behind the other is not in one another
        CHECK.due("one behind the other", CHECK.ask("t2 + t2 + t3", 0, TODAY), COUNT);
    }

    private static void exceptionsDeep() {
        CHECK.furnished(1);
        StringBuilder law = new StringBuilder("kids is 0;");
        for (int i = 1; i <= 6; i++) {
            law.append("except 1/").append(i).append(": kids is ").append(i).append(" when n >= ").append(i).append(";");
        }
        CHECK.law(law.toString());
        for (int n = 0; n <= 7; n++) {
            CHECK.house.suppose(1, Check.N, n, 0);
            kids(Math.min(n, 6));
        }
        CHECK.due("no gap", CHECK.house.gaps(0, Check.KIDS, TODAY), 0);
        CHECK.due("a seventh", CHECK.enact(0, "amend 1 { add except 1/7: kids is 7 when n >= 7; }"), 1);
        for (int n = 0; n <= 7; n++) {
            CHECK.house.suppose(1, Check.N, n, 0);
            kids(-10 - DEEP);
        }
        CHECK.due("the rule that it excepts", CHECK.house.failed(5), 7);
        CHECK.due("lines of a term and seven rules", CHECK.house.count(13), 8);
        CHECK.due("gaps", CHECK.house.gaps(0, Check.KIDS, TODAY), -4);
        // a TERM within has exceptions of its own
        CHECK.due("another term", CHECK.enact(1, "article 1 { kids is 0;" + law.substring(10) + "}"
                + "article 2 { tax is 1.00; except 2/1: tax is 1.00 * kids; }"), 2);
        CHECK.due("is not too deep", CHECK.house.reckon(1, Check.TAX, 1, TODAY, LAST), MONEY);
    }

    /** With 30 PEOPLE, none of whom has a parent: over, two DATES, and a SET that looks at 30 on each FIRST. */
    private static String looks(int firsts) {
        int month = firsts - 1;
        return "over(sum(1, parent), 2000-01-01, " + String.format("%d-%02d-01)", 2000 + month / 12, month % 12 + 1);
    }

    private static void stepsOfQuestions() {
        CHECK.furnished(29);
        CHECK.value(looks(1), COUNT, 0, 0);
        CHECK.due("steps", CHECK.house.count(12), 3 + 31);
        CHECK.value(looks(60), COUNT, 0, 0);
        CHECK.due("steps", CHECK.house.count(12), 3 + 60 * 31);
        String five = (looks(60) + " + ").repeat(5) + looks(21);
        CHECK.value(five, COUNT, 0, 0);
        CHECK.due("steps", CHECK.house.count(12), 6 * 3 + 321 * 31 + 5);
        String most = five + " + (1" + " + 1".repeat(12) + ")";
        CHECK.value(most, COUNT, 13, 0);
        CHECK.due("the 10,000th", CHECK.house.count(12), 10000);
        CHECK.fails("- (" + most + ")", LONG);
        CHECK.due("the 10,001st does not begin", CHECK.house.count(12), 10000);
        CHECK.due("without a term", CHECK.house.failed(1), NONE);
        CHECK.fails(most + " + 1", LONG);
        CHECK.value("1", COUNT, 1, 0);
        CHECK.due("a new call has its own", CHECK.house.count(12), 1);
    }

    private static void stepsOfReckonings() {
        CHECK.furnished(29);
        String five = (looks(60) + " + ").repeat(5) + looks(21);
        CHECK.law("kids is " + five + " + (1" + " + 1".repeat(11) + ");");
        kids(12);
        CHECK.due("a rule and its parts", CHECK.house.count(12), 9999);
        CHECK.due("one more", CHECK.enact(0, "article 1 { kids is - (" + five + " + (1" + " + 1".repeat(11) + ")); }"), 1);
        kids(-12);
        CHECK.due("the 10,000th", CHECK.house.count(12), 10000);
        CHECK.due("two more", CHECK.enact(0, "article 1 { kids is - - (" + five + " + (1" + " + 1".repeat(11) + ")); }"), 1);
        kids(-10 - LONG);
        CHECK.due("of the rule", CHECK.house.failed(5), 1);
        CHECK.due("the term's line is without a value", CHECK.house.why(0, 8), 0);
    }

    /** STEPS of all together: 25 on each of 400 DAYS, then 26. */
    private static void stepsOfChanges() {
        CHECK.furnished(1);
        CHECK.law("kids is - (1" + " + 1".repeat(11) + "); tax is 1.00" + " + 1.00".repeat(12) + ";");
        StatuteHouse house = CHECK.house;
        CHECK.due("no change", house.changes(0, Check.KIDS, 1, TODAY, TODAY + 399, LAST), 1);
        CHECK.due("the 10,000th", house.count(12), 10000);
        CHECK.due("its value", house.changed(0, 2), -12);
        CHECK.due("a change", house.changes(0, Check.TAX, 1, TODAY, TODAY + 399, LAST), 2);
        CHECK.due("the first day", house.changed(0, 0), TODAY);
        CHECK.due("has a value", house.changed(0, 2), 1300);
        CHECK.due("the 385th day", house.changed(1, 0), TODAY + 384);
        CHECK.due("is too long", house.changed(1, 1), LONG);
        CHECK.due("and has none", house.changed(1, 2), 0);
        CHECK.due("the 10,000th", house.count(12), 10000);
        CHECK.due("the latest fault", house.failed(3), TODAY + 399);
    }

    private static void stepsOfMeasures() {
        CHECK.furnished(21);
        CHECK.law("tax is " + LONG_SUM + ";");
        StatuteHouse house = CHECK.house;
        CHECK.due("twenty of 21", house.measure(0, NONE, Check.TAX, TODAY), 20);
        CHECK.due("steps", house.count(12), 10000);
        CHECK.due("one has none", house.measured(1), 1);
        CHECK.due("fork", house.fork(1), 1);
        CHECK.due("ten by both", house.measure(0, 1, Check.TAX, TODAY), 10);
        CHECK.due("the eleventh fails by the first", house.failed(2), 21);
    }

    /** 10 STEPS for each of 20 PEOPLE in 50 months. */
    private static void stepsOfForecasts() {
        CHECK.furnished(20);
        CHECK.law("tax is 1.00 + 1.00 + 1.00 + 1.00 + 1.00;");
        StatuteHouse house = CHECK.house;
        CHECK.due("fifty", house.forecast(0, Check.TAX, TODAY, 50), 50);
        CHECK.due("steps", house.count(12), 10000);
        CHECK.due("all have one", house.forecasted(49, 1), 20);
        CHECK.due("fifty-one", house.forecast(0, Check.TAX, TODAY, 51), 51);
        CHECK.due("all have one", house.forecasted(49, 0), 10000);
        CHECK.due("then none", house.forecasted(50, 1), 0);
        CHECK.due("nor a sum", house.forecasted(50, 0), 0);
    }

    private static void stepsOfDecisions() {
        CHECK.furnished(1);
        CHECK.law("tax is " + LONG_SUM + "; whole_tax is 1.00;");
        StatuteHouse house = CHECK.house;
        CHECK.due("twenty months", house.decide(1, Check.TAX, TODAY, 20), 0);
        CHECK.due("steps", house.count(12), 10000);
        CHECK.due("twenty-one months", house.decide(1, Check.TAX, TODAY, 21), -10 - LONG);
        CHECK.due("the 21st", house.failed(3), Check.day(2001, 9, 1));
        CHECK.due("another", house.decide(1, Check.WHOLE_TAX, TODAY, 21), 1);
        CHECK.due("steps of 21", house.count(12), 42);
        CHECK.due("then it takes long", CHECK.enact(0, "amend 1 from 1990-01-01 { put 2: whole_tax is " + LONG_SUM + "; }"), 1);
        CHECK.due("to revise twenty", house.revise(0), 0);
        CHECK.due("steps", house.count(12), 10000);
        CHECK.due("to revise 21", house.revise(1), -10 - LONG);
        CHECK.due("object", house.object(1), 1);
        CHECK.due("to grant 21", house.answer(1, true), -10 - LONG);
        CHECK.due("nothing happens", house.decision(1, 4), 1);
    }

    /** 500 STEPS each: a RULE, >=, over, two DATES, 13 PARTS on each of 38 FIRSTS, and 0. */
    private static void stepsOfSolving() {
        CHECK.furnished(1);
        CHECK.law("yes is over(1 + 1 + 1 + 1 + 1 + 1 + 1, 2000-01-01, 2003-02-28) >= 0;");
        StatuteHouse house = CHECK.house;
        CHECK.due("19 halvings and one more", house.solve(0, Check.YES, 1, TODAY, Check.N, 0, 1 << 18), 1);
        CHECK.due("steps", house.count(12), 10000);
        CHECK.due("solved", house.solved(), 0);
        CHECK.due("20 halvings and one more", house.solve(0, Check.YES, 1, TODAY, Check.N, 1, 1 + (1 << 19)), -10 - LONG);
        CHECK.due("solved stays", house.solved(), 0);
        CHECK.due("no supposition stays", house.count(4), 0);
    }

    /** 300 LINES are kept, more are only counted. */
    private static void lines() {
        CHECK.furnished(1);
        String five = "n + n + n + n + n";
        CHECK.value("over(" + five + ", 2000-01-01, 2004-12-01)", COUNT, 0, 0);
        CHECK.due("300", CHECK.house.count(13), 300);
        CHECK.due("the last", CHECK.house.why(299, 4), Check.day(2004, 12, 1));
        CHECK.due("no more", CHECK.house.why(300, 4), NONE);
        int size = CHECK.house.tell();
        CHECK.value("over(" + five + ", 2000-01-01, 2004-12-01) + n", COUNT, 0, 0);
        CHECK.due("301", CHECK.house.count(13), 301);
        CHECK.due("the last that is kept", CHECK.house.why(299, 4), Check.day(2004, 12, 1));
        CHECK.due("the 301st is not", CHECK.house.why(300, 4), NONE);
        CHECK.due("nor told", CHECK.house.tell(), size);
        // a TERM whose LINE is lost
        CHECK.law("kids is 5;");
        CHECK.value("over(" + five + ", 2000-01-01, 2004-12-01) + kids", COUNT, 5, 0);
        CHECK.due("302", CHECK.house.count(13), 302);
        CHECK.value("1", COUNT, 1, 0);
        CHECK.due("none", CHECK.house.count(13), 0);
        CHECK.due("none are told", CHECK.house.tell(), 0);
        CHECK.due("out is empty then", CHECK.house.out(0), NONE);
    }

    /** 300 LINES of 40 bytes are 12000; one of them with "false" for "true" is a byte too many. */
    private static void tellingMuch() {
        CHECK.fresh();
        CHECK.due("names of twelve letters", CHECK.names("fact abcdefghijkl: truth else true; fact abcdefghijkm: truth else true;"), 2);
        CHECK.due("person", CHECK.house.person(), 1);
        String sum = "over(" + "if(abcdefghijkl, 1, 0) + ".repeat(4) + "if(abcdefghijkm, 1, 0), 2000-01-01, 2004-12-01)";
        CHECK.value(sum, COUNT, 300, 0);
        CHECK.due("12000 bytes", CHECK.house.tell(), 12000);
        CHECK.due("the last", CHECK.house.out(11999), '\n');
        CHECK.due("behind it", CHECK.house.out(12000), NONE);
        String first = "= abcdefghijkl of 1 on 2000-01-01: true\n";
        CHECK.text("the first line", CHECK.out(40), first);
        CHECK.due("false on one", CHECK.house.fact(1, 1, 0, 0, Check.day(2004, 12, 1), LAST), 1);
        CHECK.value(sum, COUNT, 299, 0);
        CHECK.due("12001 bytes", CHECK.house.tell(), -4);
        CHECK.due("out stays", CHECK.house.out(11999), '\n');
        CHECK.due("also its end", CHECK.house.out(11998), 'e');
        CHECK.due("and its last line", CHECK.house.out(11994), ' ');
    }

    private static void failure(int fault, int term, int person, int day, int article, int number) {
        int[] want = {fault, term, person, day, article, number};
        for (int what = 0; what < 6; what++) {
            CHECK.due("failed " + what + " of " + fault, CHECK.house.failed(what), want[what]);
        }
    }

    private static void failures() {
        CHECK.furnished(1);
        failure(0, NONE, NONE, NONE, NONE, 0);
        CHECK.due("law", CHECK.enact(0, "article 999 z from 1900-01-01 {" + "void;".repeat(39) + "kids is 1 rem n; }"), 1);
        CHECK.due("a fault", CHECK.house.reckon(0, Check.KIDS, 1, LAST, LAST), -17);
        failure(7, Check.KIDS, 1, LAST, 26999, 40);
        CHECK.fails("1 + part", 6);
        failure(6, NONE, NONE, NONE, NONE, 0);
        CHECK.due("by another person", CHECK.ask("kids of state", 1, 0), -17);
        failure(7, Check.KIDS, 0, 0, 26999, 40);
        CHECK.value("1", COUNT, 1, 0);
        failure(7, Check.KIDS, 0, 0, 26999, 40);
        CHECK.due("no fault of a text is one", CHECK.ask("1 +"), NONE);
        failure(7, Check.KIDS, 0, 0, 26999, 40);
        CHECK.due("no term", CHECK.house.reckon(0, Check.TAX, 1, TODAY, LAST), -11);
        failure(1, Check.TAX, 1, TODAY, NONE, 0);
    }

    private static void values() {
        CHECK.furnished(1);
        StatuteHouse house = CHECK.house;
        CHECK.due("ahead of any", house.value(0), 0);
        CHECK.due("ahead of any", house.value(1), 0);
        CHECK.value("- 1 months", 5, -1, 0);
        CHECK.due("a fault", CHECK.ask("1 / 0"), -17);
        CHECK.due("it stays", house.value(0), -1);
        CHECK.due("a text's fault", CHECK.ask("1 /"), NONE);
        CHECK.due("it stays", house.value(0), -1);
        CHECK.due("changes", house.changes(0, Check.SHARE, 1, TODAY, TODAY, LAST), 1);
        CHECK.due("it stays", house.value(0), -1);
        CHECK.due("share", house.reckon(0, Check.SHARE, 1, TODAY, LAST), 3);
        CHECK.due("its first", house.value(0), 1);
        CHECK.due("its second", house.value(1), 5);
    }

    private static void changes() {
        CHECK.furnished(1);
        StatuteHouse house = CHECK.house;
        CHECK.due("ahead of any", house.changed(0, 0), NONE);
        CHECK.law("kids is n when n < 5; kids is whole(1 / 0) when n = 6;");
        CHECK.facts("person 1 n is 1 from 2000-01-02; person 1 n is 6 from 2000-01-03; person 1 n is 1 from 2000-01-04;"
                + "person 1 n is 5 from 2000-01-05; person 1 n is 6 from 2000-01-06; person 1 n is 1 from 2001-02-03;");
        int to = Check.day(2001, 2, 3);
        CHECK.due("400 days", house.changes(0, Check.KIDS, 1, to - 399, to, LAST), 7);
        int first = to - 399;
        long[][] want = {{first, 0, 0}, {TODAY + 1, 0, 1}, {TODAY + 2, 7, 0}, {TODAY + 3, 0, 1}, {TODAY + 4, 0, -1},
            {TODAY + 5, 7, 0}, {to, 0, 1}};
        for (int i = 0; i < 7; i++) {
            for (int what = 0; what < 3; what++) {
                CHECK.due("change " + i + " " + what, house.changed(i, what), want[i][what]);
            }
            CHECK.due("change " + i + " second", house.changed(i, 3), 0);
        }
        CHECK.due("no more", house.changed(7, 0), NONE);
        CHECK.due("401 days", house.changes(0, Check.KIDS, 1, to - 400, to, LAST), RANGE);
        CHECK.due("they stay", house.changed(6, 0), to);
        CHECK.due("one day", house.changes(0, Check.KIDS, 1, LAST, LAST, LAST), 1);
        CHECK.due("the last", house.changed(0, 0), LAST);
        CHECK.due("the others are gone", house.changed(1, 0), NONE);
        CHECK.due("the first days", house.changes(0, Check.KIDS, 1, 0, 399, LAST), 1);
        CHECK.due("each day another", CHECK.enact(0, "article 1 from 1900-01-01 { kids is daysto(1999-01-01, day); }"), 1);
        CHECK.due("400 changes", house.changes(0, Check.KIDS, 1, 1000, 1399, LAST), 400);
        CHECK.due("the last of them", house.changed(399, 0), 1399);
        CHECK.due("behind it", house.changed(400, 0), NONE);
        // a RATE's second number counts, too
        CHECK.due("a rate", CHECK.enact(0, "article 1 from 1900-01-01 { share is 1 / dayof(day); }"), 1);
        CHECK.due("two days", house.changes(0, Check.SHARE, 1, 0, 1, LAST), 2);
        CHECK.due("one half", house.changed(1, 3), 2);
    }

    private static void solving() {
        CHECK.furnished(1);
        StatuteHouse house = CHECK.house;
        CHECK.due("ahead of any", house.solved(), 0);
        CHECK.law("yes is n >= kids; kids is 5;");
        CHECK.due("all counts", house.solve(0, Check.YES, 1, TODAY, Check.N, -2147483648L, 2147483647), 1);
        CHECK.due("five", house.solved(), 5);
        CHECK.due("up to four", house.solve(0, Check.YES, 1, TODAY, Check.N, -2147483648L, 4), 0);
        CHECK.due("four", house.solved(), 4);
        CHECK.due("from six", house.solve(0, Check.YES, 1, TODAY, Check.N, 6, 2147483647), 1);
        CHECK.due("six", house.solved(), 6);
        CHECK.due("one alone", house.solve(0, Check.YES, 1, TODAY, Check.N, 4, 4), 0);
        CHECK.due("it is", house.solved(), 4);
        CHECK.due("steps of one reckoning", house.count(12), 6);
        CHECK.due("two", house.solve(0, Check.YES, 1, TODAY, Check.N, 4, 5), 1);
        CHECK.due("the second", house.solved(), 5);
        CHECK.due("steps of two", house.count(12), 12);
        // downwards: of -1 and 0 the middle is -1, of -2 and -1 it is -2
        CHECK.due("law", CHECK.enact(0, "article 1 from 1990-01-01 { yes is n >= - 1; }"), 1);
        CHECK.due("downwards", house.solve(0, Check.YES, 1, TODAY, Check.N, -2, 0), 1);
        CHECK.due("is -1", house.solved(), -1);
        CHECK.due("steps of three", house.count(12), 15);
        CHECK.due("law", CHECK.enact(0, "article 1 from 1990-01-01 { yes is pay >= 0.01; }"), 1);
        CHECK.due("all money", house.solve(0, Check.YES, 1, TODAY, Check.PAY, -1000000000000L, 1000000000000L), 1);
        CHECK.due("a cent", house.solved(), 1);
        CHECK.due("the most alone", house.solve(0, Check.YES, 1, TODAY, Check.PAY, 1000000000000L, 1000000000000L), 1);
        CHECK.due("the least alone", house.solve(0, Check.YES, 1, TODAY, Check.PAY, -1000000000000L, -1000000000000L), 0);
        CHECK.due("on the first day there is no law", house.solve(0, Check.YES, 1, 0, Check.PAY, 0, 1), -11);
        CHECK.due("solved stays", house.solved(), -1000000000000L);
        solvingWithSuppositions();
    }

    /** One SUPPOSITION more than there are, or in place of one of it. */
    private static void solvingWithSuppositions() {
        StatuteHouse house = CHECK.house;
        for (int i = 0; i < 8; i++) {
            CHECK.due("suppose", house.suppose(0, i, 1, 1), i + 1);
        }
        CHECK.due("a ninth", house.solve(0, Check.YES, 1, TODAY, Check.PAY, 0, 9), 1);
        CHECK.due("it is", house.solved(), 1);
        CHECK.due("eight are left", house.count(4), 8);
        CHECK.value("pay", MONEY, 0, 0);
        CHECK.due("in place of one", house.solve(0, Check.YES, 0, TODAY, Check.PAY, 0, 9), 1);
        CHECK.due("it is", house.solved(), 1);
        CHECK.due("that is as it was", CHECK.ask("pay", 0, TODAY), MONEY);
        CHECK.due("one cent", house.value(0), 1);
        CHECK.due("forget", house.forget(), 8);
    }
}
