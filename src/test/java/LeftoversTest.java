/**
 * What an earlier call, or a text that was refused, left in the rows of the house must not be seen by a later one; and
 * what is the first of its sort (NAME 0, the first PART, RULE or VERSION ever) is like all others.
 */
public final class LeftoversTest {
    private static final int TRUTH = 0;
    private static final int COUNT = 1;
    private static final int MONEY = 2;
    private static final int RATE = 3;
    private static final int TODAY = Check.TODAY;
    private static final int LAST = Check.LAST;
    private static final Check CHECK = new Check();

    public static void main(String[] args) {
        partsOfQuestions();
        rowsOfRefusedTables();
        holidaysBefore();
        linesBefore();
        lawsBefore();
        adoptedLaws();
        knownBefore();
        monthsBefore();
        firstName();
        firstTerm();
        firstVersion();
        firstRuleInForce();
        lastRuleInForce();
        farExceptions();
        oldestRecord();
        smallWeights();
        sumsThatFail();
        tablesByLaws();
        CHECK.end("LeftoversTest");
    }

    private static void partsOfQuestions() {
        CHECK.furnished(1);
        CHECK.value("75%", RATE, 3, 4);
        CHECK.due("law", CHECK.enact(0, "article 1 { kids is n; }"), 1);
        CHECK.due("draft", CHECK.enact(1, "article 1 { kids is n; }"), 1);
        CHECK.due("alike", CHECK.house.differ(0, TODAY, TODAY, 1, TODAY, TODAY), 0);
        CHECK.fresh();
        CHECK.due("names", CHECK.names(Check.NAMES), 20);
        CHECK.due("refused", CHECK.enact(0, "article 1 { kids is 7; kids is 7 months; }"), -1);
        CHECK.due("law", CHECK.enact(0, "article 1 { notice is gone; when_due is birth; }"), 1);
        CHECK.due("draft", CHECK.enact(1, "article 1 { notice is gone; when_due is birth; }"), 1);
        CHECK.due("alike", CHECK.house.differ(0, TODAY, TODAY, 1, TODAY, TODAY), 0);
    }

    private static void rowsOfRefusedTables() {
        CHECK.furnished(1);
        CHECK.due("refused", CHECK.enact(0, "article 1 { table fees { 1.00: 1.00; 2.00: 2.00; } kids is true; }"), -1);
        CHECK.due("law", CHECK.enact(0, "article 1 { kids is 1; }"), 1);
        CHECK.due("draft", CHECK.enact(1, "article 1 { kids is 1; }"), 1);
        CHECK.due("alike", CHECK.house.differ(0, TODAY, TODAY, 1, TODAY, TODAY), 0);
        CHECK.due("no rows", CHECK.house.count(17), 0);
        CHECK.due("a table", CHECK.enact(0, "article 1 { table fees { 3.00: 3.00; } }"), 1);
        CHECK.value("level(fees, 2.99)", MONEY, 0, 0);
        CHECK.value("level(fees, 9.00)", MONEY, 300, 0);
    }

    private static void holidaysBefore() {
        CHECK.fresh();
        CHECK.due("some", CHECK.holidays("easter plus 1; first monday of 5; last friday of 6; 17 7;"), 4);
        CHECK.due("others", CHECK.holidays("3 5; 4 5; 5 5; easter;"), 4);
        for (int day = Check.day(2000, 1, 3); day < Check.day(2000, 12, 30); day++) {
            boolean closed = day == Check.day(2000, 5, 3) || day == Check.day(2000, 5, 4) || day == Check.day(2000, 5, 5);
            CHECK.due("day " + day, CHECK.house.due(day, 0, 0) == day ? 1 : 0, !closed && day % 7 < 5 ? 1 : 0);
        }
        CHECK.due("a day of that number", CHECK.holidays("17 5;"), 1);
        CHECK.due("then Easter alone", CHECK.holidays("easter; first saturday of 9; last sunday of 9; first sunday of 3;"), 4);
        for (int day = Check.day(2000, 1, 3); day < Check.day(2000, 12, 30); day++) {
            CHECK.due("day " + day, CHECK.house.due(day, 0, 0) == day ? 1 : 0, day % 7 < 5 ? 1 : 0);
        }
        CHECK.due("refused", CHECK.holidays("3 5; 4 5; 5 13;"), -1);
        CHECK.due("those before stay", CHECK.house.count(7), 4);
        CHECK.due("a Wednesday", CHECK.house.due(Check.day(2000, 5, 3), 0, 0), Check.day(2000, 5, 3));
    }

    private static void line(int i, long... want) {
        for (int what = 0; what < want.length; what++) {
            CHECK.due("line " + i + " what " + what, CHECK.house.why(i, what), want[what]);
        }
    }

    private static void linesBefore() {
        CHECK.furnished(1);
        CHECK.law("share is 75% when n = 0; except 1/1: share is 50% when n = 1; kids is 1 rem n when n = 0; yes is n = 1;");
        StatuteHouse house = CHECK.house;
        CHECK.due("holds", house.reckon(0, Check.SHARE, 1, TODAY, LAST), RATE);
        line(1, 2, 1, Check.SHARE, 1, TODAY, 27, 1, 1, 3, 4);
        house.suppose(1, Check.N, 1, 0);
        CHECK.due("gives way", house.reckon(0, Check.SHARE, 1, TODAY, LAST), RATE);
        line(1, 2, 1, Check.SHARE, 1, TODAY, 27, 1, 2, 1, 2);
        line(2, 2, 1, Check.SHARE, 1, TODAY, 27, 2, 1, 1, 2);
        house.suppose(1, Check.N, 2, 0);
        CHECK.due("its else", house.reckon(0, Check.SHARE, 1, TODAY, LAST), RATE);
        line(0, 1, 0, Check.SHARE, 1, TODAY, -1, 0, 0, 1, 5);
        line(1, 2, 1, Check.SHARE, 1, TODAY, 27, 1, 0, 0, 0);
        line(2, 2, 1, Check.SHARE, 1, TODAY, 27, 2, 0, 0, 0);
        house.suppose(1, Check.N, 0, 0);
        CHECK.due("holds again", house.reckon(0, Check.SHARE, 1, TODAY, LAST), RATE);
        CHECK.due("a fault", house.reckon(0, Check.KIDS, 1, TODAY, LAST), -17);
        line(0, 1, 0, Check.KIDS, 1, TODAY, -1, 0, 0, 0, 0);
        line(1, 2, 1, Check.KIDS, 1, TODAY, 27, 3, 0, 0, 0);
        String want = "kids of 1 on 2000-01-01: none\n 1/3: no\n = n of 1 on 2000-01-01: 0\n = n of 1 on 2000-01-01: 0\n";
        CHECK.due("told", house.tell(), want.length());
        CHECK.text("told", CHECK.out(want.length()), want);
        CHECK.fails("part", 6);
        line(0, 3, 0, Check.PART, 1, TODAY, -1, 0, 0, 0, 0);
        CHECK.text("told", CHECK.out(house.tell()), "= part of 1 on 2000-01-01: none\n");
    }

    private static void lawsBefore() {
        CHECK.furnished(1);
        StatuteHouse house = CHECK.house;
        CHECK.due("law", CHECK.enact(0, "article 1 { kids is 1; table fees { 0.00: 1.00; } }"), 1);
        CHECK.due("draft", CHECK.enact(1, "article 1 { kids is 2; table fees { 0.00: 2.00; } }"), 1);
        for (int turn = 0; turn < 2; turn++) {
            for (int law = 0; law < 3; law++) {
                CHECK.feed("kids");
                CHECK.due("ask by " + law, house.ask(law, 1, TODAY, LAST), COUNT);
                CHECK.due("kids by " + law, house.value(0), law == 2 ? -1 : law + 1);
                CHECK.feed("level(fees, 0.00)");
                CHECK.due("fees by " + law, house.ask(law, 1, TODAY, LAST), law == 2 ? -11 : MONEY);
                CHECK.due("reckon by " + (2 - law), house.reckon(2 - law, Check.KIDS, 1, TODAY, LAST), COUNT);
                CHECK.due("kids by " + (2 - law), house.value(0), law == 0 ? -1 : 3 - law);
            }
        }
        CHECK.due("refused, but for its first article", CHECK.enact(0, "article 1 { kids is 5; } article 2 { kids is true; }"), -1);
        CHECK.due("as before", house.reckon(0, Check.KIDS, 1, TODAY, LAST), COUNT);
        CHECK.due("it is", house.value(0), 1);
        CHECK.due("enacted", CHECK.enact(0, "article 1 { kids is 6; }"), 1);
        CHECK.due("now", house.reckon(0, Check.KIDS, 1, TODAY, LAST), COUNT);
        CHECK.due("it is another", house.value(0), 6);
        CHECK.due("annulled", house.annul(27, 1, TODAY), 1);
        CHECK.due("its else", house.reckon(0, Check.KIDS, 1, TODAY, LAST), COUNT);
        CHECK.due("it is none", house.value(0), -1);
        CHECK.due("by the draft", house.reckon(1, Check.KIDS, 1, TODAY, LAST), COUNT);
        CHECK.due("it is", house.value(0), 2);
        CHECK.due("forked", house.fork(1), 2);
        CHECK.due("its else", house.reckon(1, Check.KIDS, 1, TODAY, LAST), COUNT);
        CHECK.due("it is none", house.value(0), -1);
    }

    private static void adoptedLaws() {
        CHECK.furnished(1);
        StatuteHouse house = CHECK.house;
        CHECK.due("draft", CHECK.enact(3, "article 1 { kids is 4; }"), 1);
        CHECK.due("its else", house.reckon(0, Check.KIDS, 1, TODAY, LAST), COUNT);
        CHECK.due("not yet", house.value(0), -1);
        CHECK.due("adopted", house.adopt(3), 1);
        CHECK.due("now", house.reckon(0, Check.KIDS, 1, TODAY, LAST), COUNT);
        CHECK.due("it is", house.value(0), 4);
    }

    private static void knownBefore() {
        CHECK.furnished(1);
        StatuteHouse house = CHECK.house;
        CHECK.law("kids is 1;");
        for (int known : new int[] {LAST, 0, TODAY, TODAY - 1, 0, LAST}) {
            CHECK.due("known " + known, house.reckon(0, Check.KIDS, 1, TODAY, known), COUNT);
            CHECK.due("kids known " + known, house.value(0), known >= TODAY ? 1 : -1);
        }
    }

    /** A month that may not be revised stays as it is, whatever another DECISION had there. */
    private static void monthsBefore() {
        CHECK.furnished(2);
        StatuteHouse house = CHECK.house;
        CHECK.law("tax is pay;");
        CHECK.due("terms", house.terms(1, 0, 1), 1);
        CHECK.due("decide", house.decide(1, Check.TAX, TODAY, 2), 0);
        CHECK.due("decide", house.decide(2, Check.TAX, Check.day(2001, 1, 1), 2), 1);
        CHECK.due("pass", house.pass(Check.day(2000, 5, 1)), 2);
        CHECK.due("pay", house.fact(2, Check.PAY, 500, 0, 0, LAST), 1);
        CHECK.due("those to come", house.revise(1), 2);
        CHECK.due("those long ago", house.revise(0), 0);
        CHECK.due("stay", house.amount(0, 0), 0);
        CHECK.due("stay", house.amount(0, 1), 0);
    }

    /** NAME 0 is a FACT that joins. */
    private static void firstName() {
        CHECK.fresh();
        StatuteHouse house = CHECK.house;
        CHECK.due("names", CHECK.names("fact mate: person joins; fact n: count else 1; term kids: count;"), 3);
        for (int i = 1; i <= 3; i++) {
            CHECK.due("person", house.person(), i);
        }
        CHECK.due("facts", CHECK.facts("person 2 mate is 1; person 3 mate is 2; person 2 n is 5;"), 3);
        CHECK.value("sum(n, mate)", COUNT, 5, 0);
        CHECK.value("sum(n, together)", COUNT, 7, 0);
        CHECK.value("has(mate)", TRUTH, 0, 0);
        CHECK.due("law", CHECK.enact(0, "article 1 { kids is sum(size(1), mate); kids is sum(1, together) when has(mate); }"), 1);
        String want = "article 1 {\nkids is sum(size(1), mate);\nkids is sum(1, together) when has(mate);\n}\n";
        CHECK.due("written", house.write(0, TODAY, TODAY), want.length());
        CHECK.text("written", CHECK.out(want.length()), want);
    }

    /** NAME 0 is a TERM, that of the first PART, of the first RULE. */
    private static void firstTerm() {
        CHECK.fresh();
        StatuteHouse house = CHECK.house;
        CHECK.due("names", CHECK.names("term kids: count; term yes: truth; fact par: person;"), 3);
        CHECK.due("law", CHECK.enact(0, "article 1 { kids is size(kids); }"), 1);
        CHECK.due("a ring", house.ring(0, TODAY), 0);
        CHECK.due("it is", house.reckon(0, 0, 0, TODAY, LAST), -13);
        CHECK.due("by another", CHECK.enact(0, "article 1 { kids is if(yes, 1, 2); yes is kids = 1; }"), 1);
        CHECK.due("a ring", house.ring(0, TODAY), 0);
        CHECK.due("not by a set", CHECK.enact(0, "article 1 { kids is sum(kids, par) + over(kids, day, day); }"), 1);
        CHECK.due("no ring", house.ring(0, TODAY), -1);
        CHECK.due("none", CHECK.enact(0, "article 1 { kids is 3; yes is kids = 3; }"), 1);
        CHECK.due("no ring", house.ring(0, TODAY), -1);
        CHECK.due("reckon", house.reckon(0, 1, 0, TODAY, LAST), TRUTH);
        CHECK.due("true", house.value(0), 1);
        CHECK.due("no gap", house.gaps(0, 0, TODAY), 0);
        CHECK.due("changes", house.changes(0, 0, 0, TODAY, TODAY, LAST), 1);
    }

    /** The first VERSION ever has a later FROM than one that is told behind it. */
    private static void firstVersion() {
        CHECK.furnished(1);
        StatuteHouse house = CHECK.house;
        CHECK.due("law", CHECK.enact(0, "article 1 from 2000-01-11 { kids is 1; yes is true; }"), 1);
        CHECK.due("an earlier one", CHECK.enact(0, "article 1 from 2000-01-05 { kids is 2; }"), 1);
        CHECK.due("amended is the first", CHECK.enact(0, "amend 1 from 2000-01-12 { strike 2; }"), 1);
        CHECK.due("amended is the second", CHECK.enact(0, "amend 1 from 2000-01-10 { strike 2; }"), -1);
        CHECK.due("that has no such rule", house.fault(0), 7);
        CHECK.due("annulled is one of the first", house.annul(27, 2, Check.day(2000, 1, 11)), 1);
        CHECK.due("none of the second", house.annul(27, 2, Check.day(2000, 1, 10)), -1);
    }

    /** The RULE that excepts is the first of all that are in force, the one that is excepted the last. */
    private static void firstRuleInForce() {
        CHECK.furnished(1);
        CHECK.due("law", CHECK.enact(0, "article 1 { except 2/1: kids is 2 when n = 2; } article 2 { kids is 1; }"), 2);
        for (int n = 1; n < 3; n++) {
            CHECK.house.suppose(1, Check.N, n, 0);
            CHECK.value("kids", COUNT, n, 0);
        }
        CHECK.due("no gap", CHECK.house.gaps(0, Check.KIDS, TODAY), 0);
        CHECK.due("one atom", CHECK.house.gap(0), 1);
        StringBuilder deep = new StringBuilder("except 2/1: kids is 1;");
        for (int i = 1; i <= 5; i++) {
            deep.append("except 1/").append(i).append(": kids is 1;");
        }
        CHECK.due("six deep", CHECK.enact(0, "article 1 {" + deep + "}"), 1);
        CHECK.due("are fine", CHECK.house.gaps(0, Check.KIDS, TODAY), 0);
        CHECK.due("seven deep", CHECK.enact(0, "article 1 {" + deep + "except 1/6: kids is 1; }"), 1);
        CHECK.due("are not", CHECK.house.gaps(0, Check.KIDS, TODAY), -4);
        CHECK.due("nor to reckon", CHECK.house.reckon(0, Check.KIDS, 1, TODAY, LAST), -14);
    }

    /** Deep exceptions of the second RULE that excepts none, and of the second exception of one. */
    private static void lastRuleInForce() {
        CHECK.furnished(1);
        StringBuilder chain = new StringBuilder();
        for (int i = 3; i <= 9; i++) {
            chain.append("except 1/").append(i - 1).append(": kids is 1 when false;");
        }
        CHECK.due("of the second rule", CHECK.enact(0, "article 1 { kids is 1 when n = 0; kids is 2 when n = 1;" + chain + "}"), 1);
        CHECK.due("is too deep", CHECK.house.gaps(0, Check.KIDS, TODAY), -4);
        CHECK.due("also to reckon", CHECK.house.reckon(0, Check.KIDS, 1, TODAY, LAST), -14);
        String shorter = chain.substring(0, chain.lastIndexOf("except"));
        CHECK.due("one less", CHECK.enact(0, "article 1 { kids is 1 when n = 0; kids is 2 when n = 1;" + shorter + "}"), 1);
        CHECK.due("is not", CHECK.house.gaps(0, Check.KIDS, TODAY) >= 0 ? 1 : 0, 1);
        CHECK.due("nor to reckon", CHECK.house.reckon(0, Check.KIDS, 1, TODAY, LAST), COUNT);
        CHECK.due("of the second exception", CHECK.enact(0, "article 1 { kids is 1; void; except 1/1: kids is 2 when false;"
                + "except 1/1: kids is 3 when false; except 1/4: kids is 1 when false; except 1/5: kids is 1 when false;"
                + "except 1/6: kids is 1 when false; except 1/7: kids is 1 when false; except 1/8: kids is 1 when false;"
                + "except 1/9: kids is 1 when false; }"), 1);
        CHECK.due("is too deep", CHECK.house.gaps(0, Check.KIDS, TODAY), -4);
        CHECK.due("a rule that is not by itself, but by its exception", CHECK.enact(0,
                "article 1 { kids is 1 when flag; except 1/1: kids is 2 when n = 2; }"), 1);
        CHECK.due("none holds in one way", CHECK.house.gaps(0, Check.KIDS, TODAY), 1);
        CHECK.due("where neither is", CHECK.house.gap(3), 0);
        CHECK.house.suppose(1, Check.N, 2, 0);
        CHECK.value("kids", COUNT, 2, 0);
    }

    /** Among 120 RULES in force each of some is found by the one that excepts it. */
    private static void farExceptions() {
        CHECK.furnished(1);
        String forty = "kids is 1 when n = 99;".repeat(39);
        CHECK.due("rules", CHECK.enact(0, "article 2 { kids is 7;" + forty + "} article 3 { void;" + forty + "}"), 2);
        CHECK.due("rules", CHECK.enact(0, "article 4 { void;" + forty + "}"), 1);
        for (int article = 2; article <= 4; article++) {
            for (int number : new int[] {1, 2, 20, 40}) {
                boolean there = article == 2 || number > 1;
                CHECK.due("exception", CHECK.enact(0, "article 1 { except " + article + "/" + number + ": kids is 9; }"), 1);
                int kind = CHECK.house.reckon(0, Check.KIDS, 1, TODAY, LAST);
                boolean ofFirst = article == 2 && number == 1;
                // of the first it HOLDS in its place, of others beside it, of a VOID one it is not worked out
                CHECK.due("of " + article + "/" + number, kind == COUNT ? CHECK.house.value(0) : kind, ofFirst ? 9 : there ? -12 : 7);
            }
        }
    }

    private static void oldestRecord() {
        CHECK.furnished(1);
        CHECK.due("the first", CHECK.house.fact(1, Check.N, 77, 0, 0, LAST), 1);
        for (int i = 2; i <= 16; i++) {
            CHECK.due("others of a day", CHECK.house.fact(1, Check.N, i, 0, 100 + i, 100 + i), i);
        }
        CHECK.value("n", COUNT, 77, 0);
        CHECK.value("n on 1900-04-17", COUNT, 6, 0);
        CHECK.value("has(n)", TRUTH, 1, 0);
    }

    private static void smallWeights() {
        CHECK.furnished(2);
        CHECK.law("tax is pay;");
        CHECK.facts("person 1 pay is 1.00; person 2 pay is 3.00;");
        float[][] pairs = {{Float.MIN_VALUE, Float.MIN_VALUE}, {Float.MIN_VALUE * 3, Float.MIN_VALUE}, {Float.MIN_NORMAL, Float.MIN_VALUE},
            {Float.MIN_NORMAL * 1.5f, Float.MIN_NORMAL / 2}, {Float.MIN_NORMAL * 2, Float.MIN_NORMAL}, {0.3f, 0.7f}, {1000000f, Float.MIN_VALUE}};
        for (float[] pair : pairs) {
            CHECK.due("weight", CHECK.house.weight(1, Float.floatToRawIntBits(pair[0])), 1);
            CHECK.due("weight", CHECK.house.weight(2, Float.floatToRawIntBits(pair[1])), 1);
            CHECK.due("measure", CHECK.house.measure(0, -1, Check.TAX, TODAY), 2);
            double mean = (0.0 + (double) pair[0] * 100.0 + (double) pair[1] * 300.0) / (0.0 + (double) pair[0] + (double) pair[1]);
            CHECK.due("mean", CHECK.house.measured(6), Check.bits(mean));
        }
    }

    /** The FAULT of a sum ends it, ahead of what comes behind. */
    private static void sumsThatFail() {
        CHECK.furnished(4);
        CHECK.facts("person 1 parent is 0; person 2 parent is 0; person 3 parent is 0; person 1 n is 1; person 2 n is 1;");
        CHECK.due("over ahead of zero", CHECK.ask("sum(999999999 * 2 + 0 rem n, parent)", 0, TODAY), -18);
        // the sum, three that are looked at, two of them with seven PARTS
        CHECK.due("steps", CHECK.house.count(12), 1 + 3 + 2 * 7);
        CHECK.due("over of months", CHECK.ask("over(999999999 * 2 + 0 rem dayof(day), day, day + 70 days)", 0, TODAY), -18);
        CHECK.facts("person 1 part is 25%; person 2 part is 75%; person 3 part is 50%;");
        CHECK.due("greatest", CHECK.ask("greatest(part, parent)", 0, TODAY), RATE);
        CHECK.due("its first", CHECK.house.value(0), 3);
        CHECK.due("its second", CHECK.house.value(1), 4);
        CHECK.due("smallest", CHECK.ask("smallest(part - 1, parent)", 0, TODAY), RATE);
        CHECK.due("its first", CHECK.house.value(0), -3);
        CHECK.due("its second", CHECK.house.value(1), 4);
    }

    private static void tablesByLaws() {
        CHECK.furnished(1);
        StatuteHouse house = CHECK.house;
        CHECK.due("law", CHECK.enact(0, "article 1 from 2000-01-01 { table fees { 0.00: 1.00; } } article 1 from 2000-02-01"
                + " { table fees { 0.00: 2.00; } } article 1 from 2000-03-01 { void; }"), 3);
        CHECK.value("level(fees, 0.00) on 2000-01-31 + level(fees, 0.00) on 2000-02-01 + level(fees, 0.00) on 2000-02-29"
                + " + level(fees, 0.00) on 2000-01-01", MONEY, 600, 0);
        CHECK.fails("level(fees, 0.00) on 2000-01-31 + level(fees, 0.00) on 2000-03-01", 1);
        CHECK.due("pass", house.pass(TODAY + 1), 0);
        CHECK.due("annul", house.annul(27, 1, Check.day(2000, 2, 10)), 1);
        CHECK.due("as known on two days", house.differ(0, Check.day(2000, 2, 20), TODAY, 0, Check.day(2000, 2, 20), TODAY + 1), 1);
        CHECK.due("likewise", house.differ(0, Check.day(2000, 2, 20), TODAY + 1, 0, Check.day(2000, 2, 20), TODAY), 1);
        CHECK.due("on two days", house.differ(0, Check.day(2000, 2, 9), TODAY + 1, 0, Check.day(2000, 2, 10), TODAY + 1), 1);
        CHECK.due("on one", house.differ(0, Check.day(2000, 2, 10), TODAY + 1, 0, Check.day(2000, 2, 20), TODAY + 1), 0);
    }
}
