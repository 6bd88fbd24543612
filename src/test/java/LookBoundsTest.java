/** The bounds that promises 41 to 55 name: drafts, trials on all PEOPLE, annulments, gaps, rings, OUT, differences. */
public final class LookBoundsTest {
    private static final int NONE = -1;
    private static final int RANGE = -2;
    private static final int FULL = -4;
    private static final int TODAY = Check.TODAY;
    private static final int LAST = Check.LAST;
    private static final Check CHECK = new Check();

    public static void main(String[] args) {
        drafts();
        emptyMeasures();
        measures();
        weights();
        forecasts();
        annulments();
        atoms();
        rulesOfGaps();
        waysOfGaps();
        rings();
        ringsThatAreNone();
        writings();
        longWritings();
        constantsAsWritten();
        differences();
        twoHundredArticles();
        alikeAsWritten();
        otherAsWritten();
        forkedVersions();
        counts();
        CHECK.end("LookBoundsTest");
    }

    private static void drafts() {
        CHECK.furnished(1);
        StatuteHouse house = CHECK.house;
        for (int draft = 1; draft <= 3; draft++) {
            CHECK.due("of nothing", house.fork(draft), 0);
            CHECK.due("nothing", house.adopt(draft), 0);
        }
        CHECK.due("law", CHECK.enact(0, "article 1 { kids is 1; } article 2 { void; }"), 2);
        CHECK.due("a draft of its own", CHECK.enact(3, "article 3 { void; }"), 1);
        CHECK.due("ever", house.adopt(3), 1);
        CHECK.due("once", house.adopt(3), 0);
        CHECK.due("three", house.count(8), 3);
        CHECK.due("one stays", house.count(11), 1);
        for (int draft = 1; draft <= 3; draft++) {
            CHECK.due("of all", house.fork(draft), 3);
            CHECK.due("has them", house.count(8 + draft), 3);
            CHECK.due("none since", house.adopt(draft), 0);
        }
        CHECK.due("one", CHECK.enact(1, "amend 1 { put 1: kids is 2; }"), 1);
        CHECK.due("forked again, so none since", house.fork(1), 3);
        CHECK.due("it is gone", house.adopt(1), 0);
        CHECK.due("none came", house.count(8), 3);
        CHECK.due("drafts", house.fork(0), RANGE);
        CHECK.due("are 1 to 3", house.fork(4), RANGE);
        // what is amended in a DRAFT is that of the DRAFT, by what is known there
        CHECK.due("pass", house.pass(TODAY + 1), 0);
        CHECK.due("in the draft", CHECK.enact(2, "amend 1 from 2000-01-01 { put 1: kids is 5; }"), 1);
        CHECK.due("adopt", house.adopt(2), 1);
        CHECK.due("known the day ahead", house.reckon(0, Check.KIDS, 1, TODAY, TODAY), 1);
        CHECK.due("it was 1", house.value(0), 1);
        CHECK.due("known today", house.reckon(0, Check.KIDS, 1, TODAY, TODAY + 1), 1);
        CHECK.due("it is 5", house.value(0), 5);
    }

    private static void measured(long... want) {
        for (int what = 0; what < want.length; what++) {
            CHECK.due("measured " + what, CHECK.house.measured(what), want[what]);
        }
    }

    private static void emptyMeasures() {
        CHECK.furnished(0);
        measured(0, 0, 0, 0, 0, 0, 0, 0, 0, 0, 0, 0);
        CHECK.law("tax is pay;");
        CHECK.due("the state alone", CHECK.house.measure(0, 0, Check.TAX, TODAY), 0);
        measured(0, 0, 0, 0, 0, 0, 0, 0, 0, 0, 0, 0);
        CHECK.due("a forecast of nobody", CHECK.house.forecast(0, Check.TAX, TODAY, 1), 1);
        CHECK.due("no sum", CHECK.house.forecasted(0, 0), 0);
        CHECK.due("nobody", CHECK.house.forecasted(0, 1), 0);
        CHECK.due("one", CHECK.house.person(), 1);
        CHECK.due("of one", CHECK.house.measure(0, NONE, Check.TAX, TODAY), 1);
        measured(1, 0, 0, 0, 0, 0, 0, 0, 0, 0, 0, 0);
    }

    private static void pay(int person, long cents) {
        CHECK.due("pay", CHECK.house.fact(person, Check.PAY, cents, 0, 0, LAST) > 0 ? 1 : 0, 1);
    }

    /** The middle one by size, of two the lower; differences of each two once; nothing if the sum is not above 0. */
    private static void measures() {
        CHECK.furnished(4);
        CHECK.law("tax is pay when n = 0;");
        CHECK.due("draft", CHECK.enact(1, "article 1 from 1990-01-01 { tax is pay + 0.01 * (n + 1) when n < 5; }"), 1);
        CHECK.facts("person 2 n is 9; person 3 n is 9; person 4 n is 9;");
        pay(1, 500);
        CHECK.due("one", CHECK.house.measure(0, NONE, Check.TAX, TODAY), 1);
        measured(1, 3, 500, 500, 500, 500, Check.bits(500.0), 0, 0, 0, 0, 0);
        CHECK.facts("person 2 n is 0;");
        pay(2, 100);
        CHECK.due("two", CHECK.house.measure(0, NONE, Check.TAX, TODAY), 2);
        measured(2, 2, 600, 100, 500, 100, Check.bits(300.0), Check.bits(400.0 / 2 / 600), 0, 0, 0, 0);
        CHECK.facts("person 3 n is 0;");
        pay(3, 300);
        CHECK.due("three", CHECK.house.measure(0, 1, Check.TAX, TODAY), 3);
        measured(3, 1, 900, 100, 500, 300, Check.bits(300.0), Check.bits(800.0 / 3 / 900), 3, 0, 3, 0);
        CHECK.due("the other way", CHECK.house.measure(1, 0, Check.TAX, TODAY), 3);
        measured(3, 1, 903, 101, 501, 301, Check.bits(301.0), Check.bits(800.0 / 3 / 903), 0, 3, 0, 3);
        CHECK.due("alike", CHECK.house.measure(1, 1, Check.TAX, TODAY), 3);
        measured(3, 1, 903, 101, 501, 301, Check.bits(301.0), Check.bits(800.0 / 3 / 903), 0, 0, 0, 0);
        pay(3, -600);
        CHECK.due("a sum of 0", CHECK.house.measure(0, NONE, Check.TAX, TODAY), 3);
        measured(3, 1, 0, -600, 500, 100, 0, 0);
        pay(3, -599);
        CHECK.due("a sum of 1", CHECK.house.measure(0, NONE, Check.TAX, TODAY), 3);
        measured(3, 1, 1, -599, 500, 100, Check.bits(1.0 / 3.0), Check.bits(2198.0 / 3 / 1));
        pay(3, -601);
        CHECK.due("a sum below 0", CHECK.house.measure(0, NONE, Check.TAX, TODAY), 3);
        measured(3, 1, -1, -601, 500, 100, Check.bits(-1.0 / 3.0), 0);
        pay(3, 1000000000000L);
        pay(2, 1000000000000L);
        pay(1, -1000000000000L);
        CHECK.due("the most", CHECK.house.measure(0, NONE, Check.TAX, TODAY), 3);
        measured(3, 1, 1000000000000L, -1000000000000L, 1000000000000L, 1000000000000L);
        CHECK.due("the most is over by the other", CHECK.house.measure(0, 1, Check.TAX, TODAY), 1);
    }

    /** Above 0 and not above 1000000. */
    private static void weights() {
        CHECK.furnished(2);
        CHECK.law("tax is pay;");
        pay(1, 100);
        pay(2, 300);
        float[] taken = {Float.MIN_VALUE, Float.MIN_NORMAL, 0.1f, 1f, Math.nextDown(1000000f), 1000000f};
        for (float weight : taken) {
            CHECK.due("weight " + weight, CHECK.house.weight(1, Float.floatToRawIntBits(weight)), 1);
            CHECK.due("measure", CHECK.house.measure(0, NONE, Check.TAX, TODAY), 2);
            double mean = (0.0 + (double) weight * 100 + 300) / (0.0 + (double) weight + 1);
            CHECK.due("mean with " + weight, CHECK.house.measured(6), Check.bits(mean));
        }
        float[] refused = {0f, -0f, -1f, -Float.MIN_VALUE, Math.nextUp(1000000f), Float.MAX_VALUE, Float.POSITIVE_INFINITY,
            Float.NEGATIVE_INFINITY, Float.NaN};
        for (float weight : refused) {
            CHECK.due("weight " + weight, CHECK.house.weight(1, Float.floatToRawIntBits(weight)), RANGE);
        }
        CHECK.due("measure", CHECK.house.measure(0, NONE, Check.TAX, TODAY), 2);
        CHECK.due("as it was", CHECK.house.measured(6), Check.bits((100.0 * 1000000 + 300) / 1000001.0));
        CHECK.due("the state has one, too", CHECK.house.weight(0, Float.floatToRawIntBits(7f)), 1);
        CHECK.due("it is not measured", CHECK.house.measure(0, NONE, Check.TAX, TODAY), 2);
        CHECK.due("so", CHECK.house.measured(6), Check.bits((100.0 * 1000000 + 300) / 1000001.0));
    }

    private static void forecasts() {
        CHECK.furnished(1);
        CHECK.law("tax is 0.01 * daysto(1900-01-01, day);");
        StatuteHouse house = CHECK.house;
        CHECK.due("ahead of any", house.forecasted(0, 1), 0);
        CHECK.due("one", house.forecast(0, Check.TAX, TODAY, 1), 1);
        CHECK.due("its sum", house.forecasted(0, 0), TODAY);
        CHECK.due("no second", house.forecasted(1, 1), 0);
        CHECK.due("sixty", house.forecast(0, Check.TAX, TODAY, 60), 60);
        CHECK.due("the last", house.forecasted(59, 0), Check.day(2004, 12, 1));
        CHECK.due("no more", house.forecasted(60, 1), 0);
        CHECK.due("sixty-one", house.forecast(0, Check.TAX, TODAY, 61), RANGE);
        CHECK.due("they stay", house.forecasted(59, 1), 1);
        CHECK.due("up to the end", house.forecast(0, Check.TAX, Check.day(2074, 7, 1), 60), 60);
        CHECK.due("beyond it", house.forecast(0, Check.TAX, Check.day(2074, 8, 1), 60), RANGE);
        CHECK.due("the first day", house.forecast(0, Check.TAX, 0, 1), 1);
        CHECK.due("there was no law", house.forecasted(0, 1), 0);
        CHECK.due("the other months are gone", house.forecasted(59, 1), 0);
    }

    private static void annulments() {
        CHECK.furnished(1);
        CHECK.due("law", CHECK.enact(0, "article 1 from 1900-01-01 {" + "tax is 1.00;".repeat(40) + "}"
                + " article 999 z from 2079-06-06 {" + "void;".repeat(39) + "yes is true; }"), 2);
        StatuteHouse house = CHECK.house;
        CHECK.due("no number 0", house.annul(27, 0, TODAY), NONE);
        CHECK.due("the first on the first day", house.annul(27, 1, 0), 1);
        CHECK.due("the last", house.annul(27, 40, TODAY), 2);
        CHECK.due("behind it", house.annul(27, 41, TODAY), NONE);
        CHECK.due("a later article is not yet", house.annul(26999, 40, LAST - 1), NONE);
        CHECK.due("on the last day", house.annul(26999, 40, LAST), 3);
        CHECK.due("a void one", house.annul(26999, 39, LAST), NONE);
        CHECK.due("the next article", house.annul(27000, 40, LAST), NONE);
        for (int i = 2; i <= 38; i++) {
            CHECK.due("annul", house.annul(27, i, TODAY), i + 2);
        }
        CHECK.due("the 41st", house.annul(27, 39, TODAY), FULL);
        CHECK.due("forty", house.count(16), 40);
        CHECK.due("one rule is left", house.reckon(0, Check.TAX, 1, TODAY, LAST), 2);
    }

    private static String atoms(int many) {
        StringBuilder text = new StringBuilder("n = 0");
        for (int i = 1; i < many; i++) {
            text.append(i % 2 == 0 ? " or " : " and ").append("n = ").append(i);
        }
        return text.toString();
    }

    private static void gap(int... want) {
        for (int what = 0; what < 5; what++) {
            CHECK.due("gap " + what, CHECK.house.gap(what), want[what]);
        }
    }

    private static void atoms() {
        CHECK.furnished(1);
        StatuteHouse house = CHECK.house;
        gap(NONE, NONE, NONE, NONE, NONE);
        CHECK.due("no rules", house.gaps(0, Check.YES, TODAY), 1);
        gap(0, 1, 0, 0, NONE);
        CHECK.law("kids is 1;");
        CHECK.due("no conditions", house.gaps(0, Check.KIDS, TODAY), 0);
        gap(0, 0, 0, NONE, NONE);
        CHECK.due("eight", CHECK.enact(0, "article 1 { yes is true when " + atoms(8) + "; }"), 1);
        // a pair is not both true in three of four ways, and there are four pairs
        CHECK.due("ways", house.gaps(0, Check.YES, TODAY), 81);
        gap(8, 81, 0, 0, NONE);
        CHECK.due("nine", CHECK.enact(0, "article 2 { yes is true when n = 8; }"), 1);
        CHECK.due("too many", house.gaps(0, Check.YES, TODAY), FULL);
        gap(8, 81, 0, 0, NONE);
        CHECK.due("one that is written alike", CHECK.enact(0, "article 2 { yes is true when (n) = 07; }"), 1);
        CHECK.due("is no ninth", house.gaps(0, Check.YES, TODAY) > 0 ? 1 : 0, 1);
        CHECK.due("eight", house.gap(0), 8);
        CHECK.due("nine in one", CHECK.enact(0, "article 1 { yes is true when " + atoms(9) + "; }"), 1);
        CHECK.due("too many", house.gaps(0, Check.YES, TODAY), FULL);
    }

    private static void rulesOfGaps() {
        CHECK.furnished(1);
        StatuteHouse house = CHECK.house;
        CHECK.due("forty", CHECK.enact(0, "article 1 { kids is 1;" + "except 9/9: kids is 2;".repeat(39) + "}"), 1);
        CHECK.due("are fine", house.gaps(0, Check.KIDS, TODAY), 0);
        CHECK.due("one more", CHECK.enact(0, "article 2 { except 9/9: kids is 2; }"), 1);
        CHECK.due("is too many", house.gaps(0, Check.KIDS, TODAY), FULL);
        CHECK.due("of another term", CHECK.enact(0, "article 2 { yes is true; }"), 1);
        CHECK.due("are not counted", house.gaps(0, Check.KIDS, TODAY), 0);
        CHECK.due("void ones", CHECK.enact(0, "article 2 { void; table fees { 1.00: 1.00; } }"), 1);
        CHECK.due("nor are these", house.gaps(0, Check.KIDS, TODAY), 0);
        StringBuilder deep = new StringBuilder("kids is 0;");
        for (int i = 1; i <= 6; i++) {
            deep.append("except 1/").append(i).append(": kids is ").append(i).append(";");
        }
        CHECK.due("six exceptions", CHECK.enact(0, "article 1 {" + deep + "}"), 1);
        CHECK.due("are fine", house.gaps(0, Check.KIDS, TODAY), 0);
        CHECK.due("a seventh", CHECK.enact(0, "article 1 {" + deep + "except 1/7: kids is 7; }"), 1);
        CHECK.due("is too deep", house.gaps(0, Check.KIDS, TODAY), FULL);
        CHECK.due("a ring of exceptions", CHECK.enact(0, "article 1 { kids is 1; except 1/3: kids is 2; except 1/2: kids is 3; }"), 1);
        CHECK.due("is not worked out", house.gaps(0, Check.KIDS, TODAY), 0);
    }

    private static void waysOfGaps() {
        CHECK.furnished(1);
        StatuteHouse house = CHECK.house;
        // ATOMS: flag, n = 1; the exceptions conflict where both are true
        CHECK.law("kids is 1; except 1/1: kids is 2 when flag; except 1/1: kids is 3 when n = 1;");
        CHECK.due("a conflict", house.gaps(0, Check.KIDS, TODAY), 1);
        gap(2, 0, 1, NONE, 3);
        CHECK.due("law", CHECK.enact(0, "article 1 { kids is 1 when flag; kids is 2 when not flag and n = 1; kids is 3 when n = 1; }"), 1);
        // 00: none; 01 the first; 10 the second and the third; 11 the first and the third
        CHECK.due("a gap and conflicts", house.gaps(0, Check.KIDS, TODAY), 3);
        gap(2, 1, 2, 0, 2);
        CHECK.due("an else is no rule", house.gaps(0, Check.SHARE, TODAY), 1);
        gap(0, 1, 0, 0, NONE);
        CHECK.due("ahead of the law", house.gaps(0, Check.KIDS, 0), 1);
        CHECK.due("as of the law", house.gaps(0, Check.KIDS, Check.day(1990, 1, 1)), 1);
        gap(2, 0, 1, NONE, 3);
    }

    private static void ring(String rules, int want) {
        CHECK.due(rules, CHECK.enact(0, "article 1 {" + rules + "}"), 1);
        CHECK.due(rules, CHECK.house.ring(0, TODAY), want);
    }

    private static void rings() {
        CHECK.furnished(1);
        CHECK.due("no law", CHECK.house.ring(0, TODAY), NONE);
        ring("kids is kids;", Check.KIDS);
        CHECK.due("a day ahead", CHECK.house.ring(0, TODAY - 1), NONE);
        ring("kids is 1 when kids = 1;", Check.KIDS);
        ring("kids is 1; except 9/9: kids is 2 when kids = 1;", Check.KIDS);
        ring("whole_tax is tax; tax is whole_tax; kids is 1;", Check.TAX);
        ring("tax is 1.00; whole_tax is tax; kids is kids of head; head is if(kids = 1, self, state);", Check.KIDS);
        ring("share is level(slope, tax); tax is 1.00 * share;", Check.TAX);
        ring("when_due is day + notice; notice is 1 days * kids; kids is over(1, when_due, day);", Check.KIDS);
        ring("head is self of head;", Check.HEAD);
        ring("when_due is day on when_due;", Check.WHEN_DUE);
        ring("yes is not (true and (false or yes));", Check.YES);
        ring("kids is if(true, 1, - size(kids));", Check.KIDS);
        CHECK.due("annulled", CHECK.house.annul(27, 1, TODAY), 1);
        CHECK.due("it is none", CHECK.house.ring(0, TODAY), NONE);
    }

    /** Not in X of X of P, in X of X on D, nor in the x of SETS and over. */
    private static void ringsThatAreNone() {
        CHECK.furnished(1);
        ring("kids is kids of parent;", NONE);
        ring("kids is kids on (day + 1 days);", NONE);
        ring("kids is sum(kids, parent);", NONE);
        ring("kids is sum(kids, together);", NONE);
        ring("kids is count(kids = 1, parent);", NONE);
        ring("kids is greatest(kids, parent);", NONE);
        ring("yes is any(yes, parent);", NONE);
        ring("yes is all(yes, parent);", NONE);
        ring("kids is smallest(kids, parent);", NONE);
        ring("kids is over(kids, day, day);", NONE);
        ring("kids is (n + kids * 2) of parent;", NONE);
        ring("kids is 1 when yes; yes is true when tax = 1.00; tax is 1.00;", NONE);
        ring("void; table fees { 1.00: 1.00; }", NONE);
    }

    private static void writings() {
        CHECK.furnished(1);
        StatuteHouse house = CHECK.house;
        CHECK.due("empty at first", house.out(0), NONE);
        CHECK.due("nothing", house.write(0, TODAY, TODAY), 0);
        CHECK.due("law", CHECK.enact(0, "article 1 { void; } article 2 {}"), 2);
        CHECK.due("with rules alone", house.write(0, TODAY, TODAY), "article 1 {\nvoid;\n}\n".length());
        CHECK.due("the first byte", house.out(0), 'a');
        CHECK.due("the last", house.out(19), '\n');
        CHECK.due("behind it", house.out(20), NONE);
        CHECK.due("below", house.out(-1), NONE);
        CHECK.due("refused", house.write(4, TODAY, TODAY), RANGE);
        CHECK.due("it stays", house.out(19), '\n');
        CHECK.due("a day ahead", house.write(0, TODAY - 1, TODAY), 0);
        CHECK.due("then it is empty", house.out(0), NONE);
    }

    /** 12000 bytes and no more. */
    private static void longWritings() {
        CHECK.furnished(1);
        StatuteHouse house = CHECK.house;
        // an article has 14 bytes and 40 RULES of 65, then the rest
        String rule = "kids is n + n + n + n + n + n + n + n + n + n;";
        for (int i = 1; i <= 4; i++) {
            CHECK.due("law", CHECK.enact(0, "article " + i + " {" + rule.repeat(40) + "}"), 1);
        }
        String last = "article 5 {" + rule.repeat(23) + " kids is n + n; kids is ";
        CHECK.due("more", CHECK.enact(0, last + "12345678; }"), 1);
        CHECK.due("12000", house.write(0, TODAY, TODAY), 12000);
        CHECK.due("the last byte", house.out(11999), '\n');
        CHECK.due("one ahead", house.out(11998), '}');
        CHECK.due("one more", CHECK.enact(0, last + "123456789; }"), 1);
        CHECK.due("12001", house.write(0, TODAY, TODAY), FULL);
        CHECK.due("out stays", house.out(11995), '8');
        CHECK.due("what is compared may be longer", house.differ(0, TODAY, TODAY, 1, TODAY, TODAY), 5);
    }

    private static void constantsAsWritten() {
        CHECK.furnished(1);
        String[][] want = {
            {"notice is 0 months", "notice is 0 days"}, {"notice is 0 years", "notice is 0 days"},
            {"notice is 200 years", "notice is 2400 months"}, {"notice is 65535 days", "notice is 65535 days"},
            {"share is 0000%", "share is 0%"}, {"share is 10000 %", "share is 10000%"}, {"share is 50%", "share is 50%"},
            {"kids is 000000000", "kids is 0"}, {"kids is 999999999", "kids is 999999999"},
            {"tax is 000000000.05", "tax is 0.05"}, {"tax is 999999999.99", "tax is 999999999.99"},
            {"when_due is 1900-01-01", "when_due is 1900-01-01"}, {"when_due is 2079-06-06", "when_due is 2079-06-06"},
            {"kids is ((1))", "kids is 1"}, {"kids is - - 1", "kids is (- (- 1))"}, {"yes is not not true", "yes is (not (not true))"},
            {"except 999 z/99: kids is 1", "except 999z/99: kids is 1"}, {"except 1/01: kids is 1", "except 1/1: kids is 1"},
        };
        for (String[] one : want) {
            CHECK.due(one[0], CHECK.enact(0, "article 001 {" + one[0] + ";}"), 1);
            String text = "article 1 {\n" + one[1] + ";\n}\n";
            CHECK.due(one[0] + " written", CHECK.house.write(0, TODAY, TODAY), text.length());
            CHECK.text(one[0], CHECK.out(text.length()), text);
        }
        CHECK.due("tables", CHECK.enact(0, "article 1 { table fees { 0.00: 0.01; 9999999.99: 9999999.99; } table slope"
                + " { 0.01: 0%; 0.02: 10000%; } }"), 1);
        String text = "article 1 {\ntable fees { 0.00: 0.01; 9999999.99: 9999999.99; }\ntable slope { 0.01: 0%; 0.02: 10000%; }\n}\n";
        CHECK.due("tables written", CHECK.house.write(0, TODAY, TODAY), text.length());
        CHECK.text("tables", CHECK.out(text.length()), text);
    }

    private static void differences() {
        CHECK.furnished(1);
        StatuteHouse house = CHECK.house;
        CHECK.due("ahead of any", house.differs(0), NONE);
        CHECK.due("of nothing", house.differ(0, 0, 0, 3, LAST, LAST), 0);
        StringBuilder many = new StringBuilder();
        for (int i = 1; i <= 30; i++) {
            many.append("article ").append(i).append("{void;}");
        }
        CHECK.due("thirty", CHECK.enact(0, many.toString()), 30);
        CHECK.due("all", house.differ(0, TODAY, TODAY, 1, TODAY, TODAY), 30);
        CHECK.due("the last", house.differs(29), 810);
        CHECK.due("behind it", house.differs(30), NONE);
        CHECK.due("below", house.differs(-1), NONE);
        CHECK.due("others beside them", CHECK.enact(1, many.toString().replace("{", "a{")), 30);
        CHECK.due("sixty", house.differ(0, TODAY, TODAY, 1, TODAY, TODAY), 60);
        CHECK.due("one", house.differs(58), 810);
        CHECK.due("then the other", house.differs(59), 811);
        CHECK.due("refused", house.differ(0, TODAY, TODAY, 1, TODAY, -1), RANGE);
        CHECK.due("it stays", house.differs(59), 811);
        CHECK.due("the same", house.differ(1, TODAY, TODAY, 1, TODAY, TODAY), 0);
        CHECK.due("none", house.differs(0), NONE);
        CHECK.due("without rules and not in force are alike", CHECK.enact(2, "article 7 {}"), 1);
        CHECK.due("no difference", house.differ(2, TODAY, TODAY, 3, TODAY, TODAY), 0);
        CHECK.due("as known", house.differ(0, TODAY, TODAY, 0, TODAY, TODAY - 1), 30);
    }

    /** As many articles in force as there can be VERSIONS, told from the last to the first. */
    private static void twoHundredArticles() {
        for (int laws = 1; laws <= 2; laws++) {
            CHECK.furnished(1);
            for (int text = 0; text < 8; text++) {
                StringBuilder articles = new StringBuilder();
                for (int i = 0; i < 25; i++) {
                    articles.append("article ").append(999 - 4 * (25 * text + i)).append("{ kids is 1; }");
                }
                CHECK.due("25 articles", CHECK.enact(text % laws, articles.toString()), 25);
            }
            StatuteHouse house = CHECK.house;
            CHECK.due("all differ", house.differ(0, TODAY, TODAY, 1, TODAY, TODAY), 200);
            for (int i = 0; i < 200; i++) {
                CHECK.due("article " + i, house.differs(i), 27 * (203 + 4 * i));
            }
            CHECK.due("no more", house.differs(200), NONE);
            CHECK.due("fork", house.fork(3), 200 / laws);
            CHECK.due("none differs", house.differ(0, TODAY, TODAY, 3, TODAY, TODAY), 0);
            CHECK.due("conflicts", house.reckon(0, Check.KIDS, 1, TODAY, TODAY), -12);
            CHECK.due("the first two articles", house.count(13), 3);
            CHECK.due("written", house.write(0, TODAY, TODAY), 200 / laws * "article 999 {\nkids is 1;\n}\n".length());
        }
    }

    /** RULES of one article in two LAWS: whether it differs, and whether they are one ATOM as conditions. */
    private static void differ(String one, String other, int want) {
        CHECK.furnished(1);
        CHECK.due(one, CHECK.enact(0, "article 1 {" + one + "}"), 1);
        CHECK.due(other, CHECK.enact(2, "article 1 {" + other + "}"), 1);
        CHECK.due(one + " / " + other, CHECK.house.differ(0, TODAY, TODAY, 2, TODAY, TODAY), want);
        CHECK.due(other + " / " + one, CHECK.house.differ(2, TODAY, TODAY, 0, TODAY, TODAY), want);
        CHECK.due(one + " as itself", CHECK.house.differ(0, TODAY, TODAY, 0, TODAY, TODAY), 0);
        int size = CHECK.house.write(0, TODAY, TODAY);
        String written = CHECK.out(size);
        size = CHECK.house.write(2, TODAY, TODAY);
        CHECK.due("as written: " + one + " / " + other, written.equals(CHECK.out(size)) ? 0 : 1, want);
    }

    private static void alikeAsWritten() {
        String[][] alike = {
            {"kids is 1;", "kids is (01);"}, {"kids is 1 + 2 + 3;", "kids is (1 + 2) + 3;"}, {"notice is 1 years;", "notice is 12 months;"},
            {"notice is 0 months;", "notice is 0 days;"}, {"tax is 1.00;", "tax is 0001.00;"}, {"share is 5%;", "share is 05 %;"},
            {"yes is not (true and false);", "yes is not (true and (false));"}, {"void;", "void;"}, {"", ""},
            {"table fees { 1.00: 2.00; }", "table fees { 01.00: 02.00; }"}, {"except 1 a/1: kids is 1;", "except 01a/01: kids is 1;"},
            {"kids is 1 when true; void;", "kids is 1 when (true); void;"},
        };
        for (String[] pair : alike) {
            differ(pair[0], pair[1], 0);
        }
    }

    private static void otherAsWritten() {
        String[][] others = {
            {"kids is 1;", "kids is 2;"}, {"kids is 1;", "kids is 1; void;"}, {"kids is 1; void;", "void; kids is 1;"},
            {"kids is 1;", "void;"}, {"void;", ""}, {"kids is 1;", "kids is 1 when true;"}, {"kids is 1 when true;", "kids is 1 when false;"},
            {"tax is 1.00;", "whole_tax is 1.00;"}, {"kids is 1;", "except 1/1: kids is 1;"},
            {"except 1/1: kids is 1;", "except 2/1: kids is 1;"}, {"except 1/1: kids is 1;", "except 1a/1: kids is 1;"},
            {"except 1/1: kids is 1;", "except 1/2: kids is 1;"}, {"kids is 1 + 2;", "kids is 2 + 1;"}, {"kids is 1 + 2;", "kids is 1 - 2;"},
            {"kids is 1 + 2;", "kids is 1 + 3;"}, {"kids is 1 + (2 + 3);", "kids is 1 + 2 + 3;"}, {"kids is n;", "kids is kids;"},
            {"kids is - 1;", "kids is 1;"}, {"share is 1%;", "share is 2%;"}, {"share is 100%;", "share is 1 / 1;"},
            {"notice is 1 months;", "notice is 1 days;"}, {"notice is 2 days;", "notice is 1 days;"}, {"when_due is day;", "when_due is 2000-01-01;"},
            {"when_due is 2000-01-02;", "when_due is 2000-01-01;"}, {"tax is 1.00;", "tax is 1.01;"}, {"head is self;", "head is state;"},
            {"kids is n of parent;", "kids is n of mate;"}, {"kids is n on day;", "kids is n of self;"},
            {"kids is if(true, 1, 2);", "kids is if(true, 1, 3);"}, {"kids is if(true, 1, 2);", "kids is if(true, 3, 2);"},
            {"kids is if(true, 1, 2);", "kids is if(false, 1, 2);"}, {"kids is least(1, 2);", "kids is most(1, 2);"},
            {"kids is sum(1, parent);", "kids is sum(1, mate);"}, {"kids is sum(1, parent);", "kids is sum(1, together);"},
            {"kids is greatest(1, parent);", "kids is smallest(1, parent);"}, {"yes is has(n);", "yes is has(pay);"},
            {"kids is over(1, day, day);", "kids is over(1, day, day + 1 days);"}, {"yes is 1 < 2;", "yes is 1 <= 2;"},
            {"tax is level(fees, 1.00);", "tax is between(fees, 1.00);"}, {"tax is level(fees, 1.00);", "tax is level(fees, 1.01);"},
            {"table fees { 1.00: 2.00; }", "table fees { 1.01: 2.00; }"}, {"table fees { 1.00: 2.00; }", "table fees { 1.00: 2.01; }"},
            {"table fees { 1.00: 2.00; }", "table fees { 1.00: 2.00; 2.00: 2.00; }"}, {"table slope { 1.00: 50%; }", "table slope { 1.00: 25%; }"},
            {"table slope { 1.00: 1%; 2.00: 3%; }", "table slope { 1.00: 1%; 2.00: 2%; }"},
            {"table slope { 1.00: 1%; 2.00: 3%; }", "table slope { 1.00: 1%; 3.00: 3%; }"}, {"table slope { 1.00: 1%; }", "void;"},
            {"table slope { 1.00: 5%; }", "table slope { 1.00: 500%; }"},
        };
        for (String[] pair : others) {
            differ(pair[0], pair[1], 1);
        }
    }

    /** VERSIONS of LAW 0, TOLD as there, also when others came ahead of them. */
    private static void forkedVersions() {
        CHECK.furnished(1);
        StatuteHouse house = CHECK.house;
        CHECK.due("others ahead", CHECK.enact(2, "article 1 { kids is 8; } article 1 { kids is 9; }"), 2);
        CHECK.due("first", CHECK.enact(0, "article 1 from 1990-01-01 { kids is 1; }"), 1);
        CHECK.due("pass", house.pass(TODAY + 3), 0);
        CHECK.due("others between", CHECK.enact(3, "article 1 { kids is 7; }"), 1);
        CHECK.due("second", CHECK.enact(0, "article 1 from 1990-01-01 { kids is 2; }"), 1);
        CHECK.due("pass", house.pass(TODAY + 6), 0);
        for (int draft = 3; draft >= 1; draft--) {
            CHECK.due("fork", house.fork(draft), 2);
            int[] knowns = {TODAY - 1, TODAY, TODAY + 2, TODAY + 3, TODAY + 6};
            int[] want = {-1, 1, 1, 2, 2};
            for (int i = 0; i < knowns.length; i++) {
                CHECK.due("reckon", house.reckon(draft, Check.KIDS, 1, TODAY, knowns[i]), 1);
                CHECK.due("draft " + draft + " known " + knowns[i], house.value(0), want[i]);
            }
        }
        CHECK.due("in a draft", CHECK.enact(1, "amend 1 { put 1: kids is 3; }"), 1);
        CHECK.due("another", CHECK.enact(1, "article 2 { yes is true; }"), 1);
        CHECK.due("pass", house.pass(TODAY + 9), 0);
        CHECK.due("adopt", house.adopt(1), 2);
        CHECK.due("told today", house.reckon(0, Check.KIDS, 1, TODAY + 6, TODAY + 8), 1);
        CHECK.due("not yet", house.value(0), 2);
        CHECK.due("told today", house.reckon(0, Check.KIDS, 1, TODAY + 6, TODAY + 9), 1);
        CHECK.due("it is", house.value(0), 3);
        CHECK.due("in the draft as it was", house.reckon(1, Check.KIDS, 1, TODAY + 6, TODAY + 6), 1);
        CHECK.due("it is", house.value(0), 3);
        CHECK.due("in order", house.reckon(0, Check.YES, 1, TODAY + 6, TODAY + 9), 0);
    }

    private static void counts() {
        CHECK.furnished(1);
        for (int what = -2; what < 21; what++) {
            CHECK.due("count " + what, CHECK.house.count(what) == NONE ? 1 : 0, what < 0 || what > 18 ? 1 : 0);
        }
    }
}
