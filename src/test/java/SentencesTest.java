import java.util.Random;

/** Sentences of the document that the other tests would let a class break, in the document's order. */
public final class SentencesTest {
    private static final int NONE = -1;
    private static final int RANGE = -2;
    private static final int FULL = -4;
    private static final int COUNT = 1;
    private static final int MONEY = 2;
    private static final int REAL = 6;
    private static final int UNKNOWN = 6;
    private static final int ZERO = 7;
    private static final int TODAY = Check.TODAY;
    private static final int LAST = Check.LAST;
    /** TAX is what is paid, till it is divided by an n that is 0. */
    private static final String SHARED_PAY = "tax is pay / n; yes is tax > 1.00;";
    /** 500 STEPS with its RULE: over, its two DATES, and 31 PARTS on each of 16 FIRSTS. */
    private static final String EIGHT = "(1.00" + " + 1.00".repeat(7) + ")";
    private static final String LONG_SUM = "over(" + EIGHT + " + " + EIGHT + ", 2000-01-01, 2001-04-30)";
    private static final Check CHECK = new Check();

    public static void main(String[] args) {
        houses();
        faultOfTheLatestText();
        exsOfAnotherKind();
        lastNames();
        recordsWithoutDays();
        amendedRulesThemselves();
        articlesBeginAnew();
        realsOfRatesAndMoneys();
        datesOfAnyCounts();
        onAnotherDay();
        ifWorksOneOut();
        setsThatStopLooking();
        sumsOfNone();
        ratesOfSets();
        manyRows();
        knownThen();
        suppositionsOfOtherFacts();
        exceptionsAreRounded();
        firstExceptionsHold();
        exceptionsOfInnerTerms();
        noStepsNoFault();
        linesOfNamesAlone();
        linesThatAreLost();
        spansAsTold();
        reasonsStay();
        theLatestFault();
        faultsOfEachCall();
        trialsWithSuppositions();
        trialsByDrafts();
        draftsOfTheirOwn();
        daysOfDrafts();
        draftsAsKnown();
        lawsAsKnown();
        trialsKnownToday();
        theOtherLawBehindAFault();
        weightsOfThoseWithAValue();
        adoptedInOrder();
        withdrawnWithoutRecords();
        refusedTerms();
        refusedDues();
        refusedAnswers();
        interestOfMoreAlone();
        interestIsRoundedOnce();
        remindersOfWhatIsRevised();
        remindersWithoutDue();
        whatRevisionsLeave();
        smallCredits();
        stateAccounts();
        annulledOnEarlyDays();
        annulledAsKnown();
        wholeAtoms();
        gapsThatAreFull();
        ringsOfAllKinds();
        ringsByDates();
        CHECK.end("SentencesTest");
    }

    private static void line(int i, long... want) {
        for (int what = 0; what < want.length; what++) {
            CHECK.due("line " + i + ", " + what, CHECK.house.why(i, what), want[what]);
        }
    }

    private static void failure(String what, int... want) {
        for (int i = 0; i < want.length; i++) {
            CHECK.due(what + ": failed " + i, CHECK.house.failed(i), want[i]);
        }
    }

    private static void booking(int i, long... want) {
        for (int what = 0; what < want.length; what++) {
            CHECK.due("booking " + i + ", " + what, CHECK.house.booking(i, what), want[what]);
        }
    }

    private static void tells(int person, int name, long first) {
        int before = CHECK.house.count(3);
        CHECK.due("fact", CHECK.house.fact(person, name, first, 0, 0, LAST), before + 1);
    }

    /** What is told to one object is not there in another one. */
    private static void houses() {
        CHECK.furnished(2);
        StatuteHouse first = CHECK.house;
        CHECK.law("kids is 3;");
        CHECK.fresh();
        CHECK.due("names of another", CHECK.house.count(1), 0);
        CHECK.due("people of another", CHECK.house.count(2), 1);
        CHECK.due("laws of another", CHECK.house.count(8), 0);
        CHECK.due("one more name", CHECK.names("term other: count;"), 1);
        CHECK.due("names of the first", first.count(1), 20);
        CHECK.due("reckoned by the first", first.reckon(0, Check.KIDS, 2, TODAY, TODAY), COUNT);
        CHECK.due("value of the first", first.value(0), 3);
        CHECK.due("value of another", CHECK.house.value(0), 0);
    }

    /** A call that is refused has read no text. */
    private static void faultOfTheLatestText() {
        CHECK.furnished(1);
        CHECK.due("a fault", CHECK.names("fact x: count; fact y count;"), NONE);
        CHECK.due("kind", CHECK.house.fault(0), 1);
        CHECK.due("place", CHECK.house.fault(1), 22);
        CHECK.feed("1 + 1");
        CHECK.due("no such person", CHECK.house.ask(0, 2, TODAY, TODAY), RANGE);
        CHECK.due("no such law", CHECK.house.enact(4), RANGE);
        CHECK.due("kind stays", CHECK.house.fault(0), 1);
        CHECK.due("place stays", CHECK.house.fault(1), 22);
        CHECK.due("the text stays", CHECK.house.ask(0, 1, TODAY, TODAY), COUNT);
        CHECK.due("kind of the question", CHECK.house.fault(0), 0);
        CHECK.due("place of the question", CHECK.house.fault(1), NONE);
        CHECK.due("a question that can't be reckoned", CHECK.ask("1 / 0"), -10 - ZERO);
        CHECK.due("that is no fault of the text", CHECK.house.fault(0), 0);
    }

    private static void exOfKind(String ahead, String ex, boolean taken) {
        CHECK.furnished(1);
        CHECK.due(ahead + ex, CHECK.enact(0, ahead + ex + "; }"), taken ? 1 : NONE);
        CHECK.due(ahead + ex + " kind", CHECK.house.fault(0), taken ? 0 : 5);
        CHECK.due(ahead + ex + " place", CHECK.house.fault(1), taken ? NONE : ahead.length());
    }

    /** KIND of an ex that is whole, at its first TOKEN, whatever that is. */
    private static void exsOfAnotherKind() {
        String[] truths = {"not flag", "not not flag", "(flag)", "any(flag, parent)", "has(n)", "true", "flag or flag",
            "flag of self", "if(flag, true, false)", "n < 1", "working(day)", "yes"};
        String[] others = {"- 1.00", "- - 1.00", "(1.00)", "((n) * 1.00)", "if(flag, 1.00, 2.00)", "level(fees, 1.00)",
            "over(1.00, day, day)", "self", "state", "day", "5 days", "5%", "5.00", "2000-01-01", "part", "tax",
            "pay of self", "pay on day", "pay + pay", "greatest(pay, parent)"};
        for (String ex : truths) {
            exOfKind("article 1 { kids is ", ex, false);
            exOfKind("article 1 { kids is 1 when ", ex, true);
        }
        for (String ex : others) {
            exOfKind("article 1 { kids is ", ex, false);
            exOfKind("article 1 { kids is 1 when ", ex, false);
        }
    }

    /** The 40th NAME is like all others: it joins, comes to itself, is supposed and told. */
    private static void lastNames() {
        CHECK.fresh();
        StatuteHouse house = CHECK.house;
        StringBuilder names = new StringBuilder();
        for (int i = 0; i < 38; i++) {
            names.append("fact f").append(i).append(": count;");
        }
        CHECK.due("names", CHECK.names(names + "fact friend: person joins; term last_one: count;"), 40);
        for (int person = 1; person < 30; person++) {
            CHECK.due("person", house.person(), person);
        }
        CHECK.due("friend of the last", house.fact(29, 38, 1, 0, 0, LAST), 1);
        CHECK.due("friend of the first", house.fact(1, 38, 28, 0, 0, LAST), 2);
        CHECK.value("sum(1, together)", COUNT, 3, 0);
        CHECK.value("sum(1, friend)", COUNT, 1, 0);
        CHECK.law("last_one is last_one;");
        CHECK.due("ring", house.ring(0, TODAY), 39);
        CHECK.due("reckon", house.reckon(0, 39, 29, TODAY, TODAY), -13);
        failure("ring", 3, 39, 29, TODAY, 27, 1);
        CHECK.due("suppose", house.suppose(28, 38, 15, 0), 1);
        CHECK.value("sum(1, together)", COUNT, 4, 0);
    }

    private static void n(int day, long want) {
        CHECK.due("n on " + day, CHECK.ask("n", 1, day), COUNT);
        CHECK.due("n on " + day + " is", CHECK.house.value(0), want);
    }

    /** From DAY 0, until the last one, if that is not told. */
    private static void recordsWithoutDays() {
        CHECK.furnished(1);
        CHECK.due("no days", CHECK.facts("person 1 n is 5;"), 1);
        n(0, 5);
        n(LAST, 5);
        CHECK.due("from alone", CHECK.facts("person 1 n is 6 from 2079-06-05;"), 1);
        n(LAST - 2, 5);
        n(LAST - 1, 6);
        n(LAST, 6);
        CHECK.due("until alone", CHECK.facts("person 1 n is 7 until 1900-01-02;"), 1);
        n(0, 7);
        n(1, 7);
        n(2, 5);
        CHECK.due("withdrawn", CHECK.facts("person 1 n withdrawn;"), 1);
        n(0, 0);
        n(LAST, 0);
    }

    /** A VERSION by "amend" has the RULES themselves: what is annulled is so from its DAY on, there too. */
    private static void amendedRulesThemselves() {
        CHECK.furnished(1);
        StatuteHouse house = CHECK.house;
        CHECK.law("kids is 3; yes is true;");
        CHECK.due("annul", house.annul(27, 1, Check.day(2001, 1, 1)), 1);
        CHECK.due("amend", CHECK.enact(0, "amend 1 from 2000-06-01 { add share is 5%; }"), 1);
        CHECK.due("ahead of that", CHECK.ask("kids", 1, Check.day(2000, 12, 31)), COUNT);
        CHECK.due("it holds", house.value(0), 3);
        CHECK.due("from then on", CHECK.ask("kids", 1, Check.day(2001, 1, 1)), COUNT);
        CHECK.due("it does not", house.value(0), -1);
        CHECK.due("the one that is added", house.annul(27, 3, Check.day(2000, 6, 1)), 2);
    }

    private static void articlesBeginAnew() {
        CHECK.furnished(1);
        CHECK.due("first", CHECK.enact(0, "article 1 from 1900-01-01 { kids is 3; }"), 1);
        CHECK.due("anew", CHECK.enact(0, "article 1 from 1900-01-01 { share is 5%; }"), 1);
        CHECK.value("kids", COUNT, -1, 0);
        CHECK.value("share", 3, 1, 20);
    }

    /** MONEY is divided by 100.0, a RATE's numbers by one another, not multiplied by what is near to that. */
    private static void realsOfRatesAndMoneys() {
        Random random = new Random(8);
        for (int turn = 0; turn < 40; turn++) {
            CHECK.furnished(1);
            for (int i = 0; i < 8; i++) {
                int over = random.nextInt(2000001) - 1000000;
                int under = random.nextInt(1000000) + 1;
                long cents = random.nextLong() % 1000000000001L;
                CHECK.due("part", CHECK.house.suppose(1, Check.PART, over, under), i == 0 ? 1 : 2);
                CHECK.due("pay", CHECK.house.suppose(1, Check.PAY, cents, 0), 2);
                CHECK.value("real(part)", REAL, Check.bits((double) over / (double) under), 0);
                CHECK.value("real(pay)", REAL, Check.bits(cents / 100.0), 0);
            }
        }
    }

    /** OVER without such a DAY, also where 32 bits would come round to one that there is. */
    private static void datesOfAnyCounts() {
        CHECK.furnished(1);
        int round = (int) ((1L << 32) / 12);
        long[] years = {1899, 2080, 0, -1, -2000, Integer.MIN_VALUE, Integer.MAX_VALUE, 1900 + round, 2000 + round, 2000 - round,
            2000L - 2 * round, 1901 + 2L * round - Integer.MAX_VALUE, 1 << 30, -(1 << 30), 2000 + (1 << 30)};
        long[] others = {0, 32, -1, Integer.MIN_VALUE, Integer.MAX_VALUE, 1 << 30, 1 + (1 << 30), 5 + round};
        for (long year : years) {
            CHECK.due("year", CHECK.house.suppose(1, Check.N, year, 0), 1);
            for (int month = 1; month <= 12; month++) {
                CHECK.fails("date(n, " + month + ", 1)", 8);
            }
        }
        for (long other : others) {
            CHECK.due("other", CHECK.house.suppose(1, Check.N, other, 0), 1);
            CHECK.fails("date(2000, n, 1)", 8);
            CHECK.fails("date(2000, 1, n)", 8);
        }
    }

    /** X on D: RULES and FACTS as they are on that DAY. */
    private static void onAnotherDay() {
        CHECK.furnished(1);
        StatuteHouse house = CHECK.house;
        CHECK.due("n", house.fact(1, Check.N, 3, 0, 0, TODAY - 1), 1);
        CHECK.due("n later", house.fact(1, Check.N, 8, 0, TODAY, LAST), 2);
        CHECK.due("law", CHECK.enact(0, "article 1 from 1990-01-01 { tax is 1.00; kids is n on 1995-01-01; }"
                + " article 1 from 2000-07-01 { tax is 2.00; kids is n; } article 2 from 2000-07-01 { share is 5%; }"), 3);
        CHECK.value("share on 2000-06-30", 3, 1, 5);
        CHECK.value("share on 2000-07-01", 3, 1, 20);
        CHECK.value("tax", MONEY, 100, 0);
        CHECK.value("tax on 2000-07-01", MONEY, 200, 0);
        CHECK.value("tax on 2000-06-30", MONEY, 100, 0);
        CHECK.due("later", CHECK.ask("tax on 1995-01-01 + tax * 10", 1, Check.day(2000, 8, 1)), MONEY);
        CHECK.due("both", house.value(0), 100 + 2000);
        CHECK.value("kids", COUNT, 3, 0);
        line(2, 3, 1, Check.N, 1, Check.day(1995, 1, 1), NONE, 0, 0, 3, 0);
        CHECK.value("kids on 2000-07-01", COUNT, 8, 0);
    }

    private static void steps(String text, int want) {
        CHECK.ask(text);
        CHECK.due("steps of " + text, CHECK.house.count(12), want);
    }

    private static void ifWorksOneOut() {
        CHECK.furnished(1);
        steps("if(true, 1, 2 + 3)", 3);
        steps("if(false, 1, 2 + 3)", 5);
        steps("if(true, 1 rem 0, 2)", 5);
        steps("if(false, 1 rem 0, 2)", 3);
    }

    /** As soon as one is true, false, the PEOPLE behind are not looked at. */
    private static void setsThatStopLooking() {
        CHECK.furnished(5);
        tells(2, Check.PARENT, 1);
        tells(3, Check.PARENT, 1);
        tells(2, Check.MATE, 1);
        tells(3, Check.MATE, 1);
        tells(2, Check.FLAG, 1);
        steps("any(flag, parent)", 1 + 3 + 1);
        steps("all(flag, parent)", 1 + 4 + 2);
        steps("any(not flag, parent)", 1 + 4 + 4);
        steps("all(not flag, parent)", 1 + 3 + 2);
        steps("count(flag, parent)", 1 + 6 + 2);
        steps("any(flag, together)", 1 + 3 + 2);
        steps("all(flag, together)", 1 + 2 + 1);
        steps("count(flag, together)", 1 + 6 + 3);
    }

    /** Of none a sum is 0 of its KIND, also where there is THE STATE alone. */
    private static void sumsOfNone() {
        CHECK.furnished(0);
        String[] exs = {"sum(n, parent)", "sum(pay, parent)", "sum(part, parent)", "sum(odd, parent)",
            "over(part, 2000-01-02, 2000-01-31)", "over(pay, 2000-02-01, 2000-01-01)", "count(flag, parent)"};
        int[] kinds = {COUNT, MONEY, 3, REAL, 3, MONEY, COUNT};
        for (int i = 0; i < exs.length; i++) {
            CHECK.due(exs[i], CHECK.ask(exs[i], 0, TODAY), kinds[i]);
            CHECK.due(exs[i] + " first", CHECK.house.value(0), 0);
            CHECK.due(exs[i] + " second", CHECK.house.value(1), kinds[i] == 3 ? 1 : 0);
        }
    }

    /** RATES are compared as what they are, not by one of their numbers. */
    private static void ratesOfSets() {
        CHECK.furnished(6);
        StatuteHouse house = CHECK.house;
        int[][] parts = {{1, 3}, {2, 5}, {3, 8}, {5, 16}, {-7, 4}, {-5, 3}};
        for (int person = 1; person <= 6; person++) {
            CHECK.due("part", house.fact(person, Check.PART, parts[person - 1][0], parts[person - 1][1], 0, LAST), 2 * person - 1);
            CHECK.due("parent", house.fact(person, Check.PARENT, person > 4 ? 2 : 1, 0, 0, LAST), 2 * person);
        }
        CHECK.value("greatest(part, parent)", 3, 2, 5);
        CHECK.value("smallest(part, parent)", 3, 5, 16);
        CHECK.due("of another one", CHECK.ask("greatest(part, parent)", 2, TODAY), 3);
        CHECK.due("greatest below 0", house.value(0), -5);
        CHECK.due("of another one", CHECK.ask("smallest(part, parent)", 2, TODAY), 3);
        CHECK.due("smallest below 0", house.value(0), -7);
        CHECK.value("sum(part, parent)", 3, 341, 240);
    }

    /** The rows around, wherever in a TABLE they stand. */
    private static void manyRows() {
        CHECK.furnished(1);
        CHECK.law("table fees { 1.00: 10.00; 2.00: 30.00; 4.00: 20.00; 8.00: 60.00; 16.00: 50.00; 32.00: 90.00; }"
                + " table slope { 1.00: 10%; 2.00: 50%; 4.00: 20%; 8.00: 100%; }");
        String[] at = {"0.50", "1.00", "1.50", "2.00", "3.00", "4.00", "5.00", "8.00", "12.00", "16.00", "20.00", "32.00", "50.00"};
        long[] between = {1000, 1000, 2000, 3000, 2500, 2000, 3000, 6000, 5500, 5000, 6000, 9000, 9000};
        long[] levels = {0, 1000, 1000, 3000, 3000, 2000, 2000, 6000, 6000, 5000, 5000, 9000, 9000};
        long[] slices = {0, 0, 5, 10, 60, 110, 130, 190, 590, 990, 1390, 2590, 4390};
        for (int i = 0; i < at.length; i++) {
            CHECK.value("between(fees, " + at[i] + ")", MONEY, between[i], 0);
            CHECK.value("level(fees, " + at[i] + ")", MONEY, levels[i], 0);
            CHECK.value("slices(slope, " + at[i] + ")", MONEY, slices[i], 0);
        }
    }

    private static void asKnown(String text, int known, long want) {
        CHECK.feed(text);
        CHECK.house.ask(0, 1, TODAY, known);
        CHECK.due(text + " known " + known, CHECK.house.value(0), want);
    }

    /** What a RECORD tells is not known ahead of the DAY on which it was told. */
    private static void knownThen() {
        CHECK.furnished(3);
        tells(1, Check.N, 4);
        tells(2, Check.MATE, 1);
        tells(3, Check.PARENT, 1);
        for (int before = 1; before >= 0; before--) {
            asKnown("n", TODAY - before, before == 1 ? 0 : 4);
            asKnown("has(n)", TODAY - before, 1 - before);
            asKnown("sum(1, together)", TODAY - before, 2 - before);
            asKnown("sum(1, parent)", TODAY - before, 1 - before);
        }
    }

    /** In solve() the FACTS that are supposed are so, too, and stay it. */
    private static void suppositionsOfOtherFacts() {
        CHECK.furnished(1);
        StatuteHouse house = CHECK.house;
        CHECK.law("yes is pay >= 5.00 and n >= 3;");
        CHECK.due("without", house.solve(0, Check.YES, 1, TODAY, Check.N, 0, 10), 0);
        CHECK.due("low is high", house.solved(), 10);
        CHECK.due("suppose", house.suppose(1, Check.PAY, 500, 0), 1);
        CHECK.due("suppose it", house.suppose(1, Check.N, 1, 0), 2);
        CHECK.due("with", house.solve(0, Check.YES, 1, TODAY, Check.N, 0, 10), 1);
        CHECK.due("found", house.solved(), 3);
        CHECK.value("pay", MONEY, 500, 0);
        CHECK.value("n", COUNT, 1, 0);
        CHECK.due("suppositions", house.count(4), 2);
    }

    /** A RULE that excepts another one HOLDS with its ex's VALUE, rounded; the one that gives way has that. */
    private static void exceptionsAreRounded() {
        CHECK.furnished(1);
        CHECK.law("whole_tax is 9.99; except 1/1: whole_tax is 5.99; except 1/2: whole_tax is -3.01 when flag;");
        CHECK.value("whole_tax", MONEY, 500, 0);
        line(1, 2, 1, Check.WHOLE_TAX, 1, TODAY, 27, 1, 2, 500, 0);
        line(2, 2, 1, Check.WHOLE_TAX, 1, TODAY, 27, 2, 1, 500, 0);
        line(3, 2, 1, Check.WHOLE_TAX, 1, TODAY, 27, 3, 0, 0, 0);
        tells(1, Check.FLAG, 1);
        CHECK.value("whole_tax", MONEY, -400, 0);
        line(1, 2, 1, Check.WHOLE_TAX, 1, TODAY, 27, 1, 2, -400, 0);
        line(2, 2, 1, Check.WHOLE_TAX, 1, TODAY, 27, 2, 2, -400, 0);
        line(3, 2, 1, Check.WHOLE_TAX, 1, TODAY, 27, 3, 1, -400, 0);
    }

    /** The VALUE of the exception that HOLDS is kept, though others behind it don't HOLD. */
    private static void firstExceptionsHold() {
        CHECK.furnished(1);
        CHECK.law("notice is 1 days; except 1/1: notice is 3 months + 4 days; except 1/1: notice is 9 days when flag;"
                + " share is 5%; except 1/4: share is 7% when flag; except 1/4: share is 9%; except 1/4: share is 8% when flag;");
        CHECK.value("notice", 5, 3, 4);
        line(0, 1, 0, Check.NOTICE, 1, TODAY, NONE, 0, 0, 3, 4);
        line(1, 2, 1, Check.NOTICE, 1, TODAY, 27, 1, 2, 3, 4);
        line(2, 2, 1, Check.NOTICE, 1, TODAY, 27, 2, 1, 3, 4);
        line(3, 2, 1, Check.NOTICE, 1, TODAY, 27, 3, 0, 0, 0);
        CHECK.value("share", 3, 9, 100);
        line(1, 2, 1, Check.SHARE, 1, TODAY, 27, 4, 2, 9, 100);
        line(2, 2, 1, Check.SHARE, 1, TODAY, 27, 5, 0, 0, 0);
        line(4, 2, 1, Check.SHARE, 1, TODAY, 27, 6, 1, 9, 100);
        line(5, 2, 1, Check.SHARE, 1, TODAY, 27, 7, 0, 0, 0);
    }

    /** How deep exceptions go is counted anew for each TERM. */
    private static void exceptionsOfInnerTerms() {
        CHECK.furnished(1);
        StringBuilder rules = new StringBuilder("kids is 1; share is 1%;");
        for (int i = 0; i < 6; i++) {
            rules.append(" except 1/").append(i == 0 ? 1 : 2 * i + 1).append(": kids is ").append(i)
                    .append(i < 5 ? " when n > 0;" : " * 10 when share > 0%;");
            rules.append(" except 1/").append(2 * i + 2).append(": share is ").append(i + 2).append("%;");
        }
        CHECK.law(rules.toString());
        CHECK.value("kids", COUNT, 50, 0);
        CHECK.value("share", 3, 7, 100);
    }

    /** A TERM without RULES takes no STEP, so that it has its else though there are no more STEPS. */
    private static void noStepsNoFault() {
        CHECK.fresh();
        StatuteHouse house = CHECK.house;
        CHECK.due("names", CHECK.names("term toll: money else 9.00;"), 1);
        CHECK.due("person", house.person(), 1);
        CHECK.due("law", CHECK.enact(0, "article 1 from 1990-01-01 { toll is " + LONG_SUM + "; }"
                + " article 1 from 2002-02-01 { }"), 2);
        CHECK.due("forecast", house.forecast(0, 0, TODAY, 30), 30);
        for (int month = 0; month < 30; month++) {
            long want = month < 20 ? 16 * 1600 : month < 25 ? 0 : 900;
            CHECK.due("sum of month " + month, house.forecasted(month, 0), want);
            CHECK.due("how many of month " + month, house.forecasted(month, 1), want == 0 ? 0 : 1);
        }
        int from = Check.day(2002, 2, 1) - 30;
        CHECK.due("changes", house.changes(0, 0, 1, from, from + 40, TODAY), 3);
        long[][] want = {{from, 0, 25600, 0}, {from + 20, 5, 0, 0}, {from + 30, 0, 900, 0}};
        for (int i = 0; i < 3; i++) {
            for (int what = 0; what < 4; what++) {
                CHECK.due("change " + i + ", " + what, house.changed(i, what), want[i][what]);
            }
        }
    }

    /** LINES are of TERMS, RULES, and FACTS that are asked for by their NAMES, not of has and SETS. */
    private static void linesOfNamesAlone() {
        CHECK.furnished(2);
        tells(2, Check.PARENT, 1);
        tells(2, Check.N, 5);
        CHECK.value("has(n)", 0, 0, 0);
        CHECK.due("lines of has", CHECK.house.count(13), 0);
        CHECK.value("count(has(n), parent)", COUNT, 1, 0);
        CHECK.due("lines of a set", CHECK.house.count(13), 0);
        CHECK.value("sum(n, parent)", COUNT, 5, 0);
        CHECK.due("lines of what it adds", CHECK.house.count(13), 1);
        line(0, 3, 0, Check.N, 2, TODAY, NONE, 0, 0, 5, 0);
    }

    /** At most 300, the first ones; more are only counted. */
    private static void linesThatAreLost() {
        CHECK.furnished(1);
        CHECK.value("over(n + n + n + n + n + n, 2000-01-01, 2004-12-31)", COUNT, 0, 0);
        CHECK.due("lines", CHECK.house.count(13), 360);
        line(0, 3, 0, Check.N, 1, TODAY, NONE, 0, 0, 0, 0);
        line(6, 3, 0, Check.N, 1, Check.day(2000, 2, 1), NONE, 0, 0, 0, 0);
        line(299, 3, 0, Check.N, 1, Check.day(2004, 2, 1), NONE, 0, 0, 0, 0);
        line(300, NONE, NONE, NONE, NONE, NONE, NONE, NONE, NONE, NONE, NONE);
        String last = "= n of 1 on 2004-02-01: 0\n";
        int size = CHECK.house.tell();
        CHECK.due("told", size, 300 * last.length());
        CHECK.text("the last one told", CHECK.out(size).substring(299 * last.length()), last);
    }

    /** MONTHS and DAYS are both told, also if they are 0. */
    private static void spansAsTold() {
        String[] exs = {"5 days", "5 months", "2 years", "0 days", "- 1 months", "- (3 months + 4 days)"};
        String[] want = {"0 months 5 days", "5 months 0 days", "24 months 0 days", "0 months 0 days",
            "-1 months 0 days", "-3 months -4 days"};
        for (int i = 0; i < exs.length; i++) {
            CHECK.furnished(1);
            CHECK.law("notice is " + exs[i] + ";");
            CHECK.due("reckon", CHECK.house.reckon(0, Check.NOTICE, 1, TODAY, TODAY), 5);
            int size = CHECK.house.tell();
            CHECK.text(exs[i], CHECK.out(size), "notice of 1 on 2000-01-01: " + want[i] + "\n 1/1: " + want[i] + "\n");
        }
    }

    private static void stays(String what, long call, long want) {
        CHECK.due(what, call, want);
        CHECK.due("lines behind " + what, CHECK.house.count(13), 4);
        line(0, 1, 0, Check.TAX, 1, TODAY, NONE, 0, 0, 300, 0);
        line(3, 3, 1, Check.N, 1, TODAY, NONE, 0, 0, 2, 0);
        CHECK.due("value behind " + what, CHECK.house.value(0), 300);
    }

    /** REASONS and the VALUE are those of the latest ask() or reckon(). */
    private static void reasonsStay() {
        CHECK.furnished(2);
        StatuteHouse house = CHECK.house;
        CHECK.law(SHARED_PAY);
        tells(1, Check.N, 2);
        tells(2, Check.N, 3);
        tells(1, Check.PAY, 600);
        stays("reckon", house.reckon(0, Check.TAX, 1, TODAY, TODAY), MONEY);
        stays("changes", house.changes(0, Check.TAX, 2, TODAY, TODAY, TODAY), 1);
        stays("solve", house.solve(0, Check.YES, 1, TODAY, Check.PAY, 0, 1000), 1);
        stays("measure", house.measure(0, NONE, Check.TAX, TODAY), 2);
        stays("forecast", house.forecast(0, Check.TAX, TODAY, 1), 1);
        stays("decide", house.decide(1, Check.TAX, TODAY, 2), 0);
        stays("object", house.object(0), 1);
        tells(1, Check.PAY, 800);
        stays("answer", house.answer(0, true), 2);
        tells(1, Check.PAY, 900);
        stays("revise", house.revise(0), 2);
        stays("gaps", house.gaps(0, Check.TAX, TODAY), 0);
        stays("ring", house.ring(0, TODAY), NONE);
    }

    /** It is told till another one comes, however much goes well behind it. */
    private static void theLatestFault() {
        CHECK.furnished(1);
        StatuteHouse house = CHECK.house;
        CHECK.law(SHARED_PAY);
        CHECK.due("by 0", house.reckon(0, Check.TAX, 1, TODAY, TODAY), -10 - ZERO);
        failure("by 0", ZERO, Check.TAX, 1, TODAY, 27, 1);
        tells(1, Check.N, 2);
        CHECK.due("by 2", house.reckon(0, Check.TAX, 1, TODAY, TODAY), MONEY);
        CHECK.value("1 + 1", COUNT, 2, 0);
        CHECK.due("measure", house.measure(0, NONE, Check.TAX, TODAY), 1);
        CHECK.due("decide", house.decide(1, Check.TAX, TODAY, 1), 0);
        failure("still", ZERO, Check.TAX, 1, TODAY, 27, 1);
        CHECK.fails("part", UNKNOWN);
        failure("another one", UNKNOWN, NONE, NONE, NONE, NONE, 0);
    }

    private static void failing(String what, long call, long want, int day) {
        CHECK.due(what, call, want);
        failure(what, ZERO, Check.TAX, 1, day, 27, 1);
        CHECK.fails("part", UNKNOWN);
        failure("between", UNKNOWN, NONE, NONE, NONE, NONE, 0);
    }

    /** The FAULT that came latest in any call. */
    private static void faultsOfEachCall() {
        CHECK.furnished(1);
        StatuteHouse house = CHECK.house;
        CHECK.law(SHARED_PAY);
        int next = Check.day(2000, 2, 1);
        CHECK.due("n in January", house.fact(1, Check.N, 2, 0, 0, next - 1), 1);
        CHECK.fails("part", UNKNOWN);
        failing("reckon", house.reckon(0, Check.TAX, 1, next, TODAY), -10 - ZERO, next);
        failing("changes", house.changes(0, Check.TAX, 1, next - 1, next + 1, TODAY), 2, next + 1);
        failing("changes that go well at last", house.changes(0, Check.TAX, 1, next, next + 2, TODAY), 1, next + 2);
        failing("solve", house.solve(0, Check.YES, 1, next, Check.PAY, 0, 10), -10 - ZERO, next);
        failing("measure", house.measure(0, NONE, Check.TAX, next), 0, next);
        failing("forecast", house.forecast(0, Check.TAX, TODAY, 2), 2, next);
        failing("decide", house.decide(1, Check.TAX, TODAY, 3), -10 - ZERO, next);
        CHECK.due("one month", house.decide(1, Check.TAX, TODAY, 1), 0);
        CHECK.due("withdraw", house.withdraw(1, Check.N, 0, LAST), 2);
        failing("revise", house.revise(0), -10 - ZERO, TODAY);
        CHECK.due("object", house.object(0), 1);
        failing("answer", house.answer(0, true), -10 - ZERO, TODAY);
    }

    /** A SUPPOSITION is so in all reckonings but those of DECISIONS. */
    private static void trialsWithSuppositions() {
        CHECK.furnished(1);
        StatuteHouse house = CHECK.house;
        CHECK.law("tax is pay;");
        tells(1, Check.PAY, 100);
        CHECK.due("suppose", house.suppose(1, Check.PAY, 700, 0), 1);
        CHECK.due("reckon", house.reckon(0, Check.TAX, 1, TODAY, TODAY), MONEY);
        CHECK.due("reckoned", house.value(0), 700);
        CHECK.due("changes", house.changes(0, Check.TAX, 1, TODAY, TODAY, TODAY), 1);
        CHECK.due("changed", house.changed(0, 2), 700);
        CHECK.due("measure", house.measure(0, 0, Check.TAX, TODAY), 1);
        CHECK.due("measured", house.measured(2), 700);
        CHECK.due("forecast", house.forecast(0, Check.TAX, TODAY, 1), 1);
        CHECK.due("forecasted", house.forecasted(0, 0), 700);
        CHECK.due("decide", house.decide(1, Check.TAX, TODAY, 1), 0);
        CHECK.due("decided", house.amount(0, 0), 100);
        CHECK.due("revise", house.revise(0), 0);
        CHECK.due("object", house.object(0), 1);
        CHECK.due("answer", house.answer(0, true), 0);
        CHECK.due("as decided", house.amount(0, 0), 100);
    }

    /** Each look is by the LAW that it is asked of. */
    private static void trialsByDrafts() {
        CHECK.furnished(1);
        StatuteHouse house = CHECK.house;
        CHECK.law("tax is 7.00; yes is n >= 5; share is 5%; kids is 1;");
        CHECK.due("draft", CHECK.enact(2, "article 1 from 1990-01-01 { tax is 9.00; yes is n >= 8;"
                + " share is 5% when flag; kids is kids; }"), 1);
        for (int law = 0; law < 3; law += 2) {
            CHECK.due("changes", house.changes(law, Check.TAX, 1, TODAY, TODAY, TODAY), 1);
            CHECK.due("changed", house.changed(0, 2), law == 0 ? 700 : 900);
            CHECK.due("solve", house.solve(law, Check.YES, 1, TODAY, Check.N, 0, 20), 1);
            CHECK.due("solved", house.solved(), law == 0 ? 5 : 8);
            CHECK.due("forecast", house.forecast(law, Check.TAX, TODAY, 1), 1);
            CHECK.due("forecasted", house.forecasted(0, 0), law == 0 ? 700 : 900);
            CHECK.due("gaps", house.gaps(law, Check.SHARE, TODAY), law == 0 ? 0 : 1);
            CHECK.due("ring", house.ring(law, TODAY), law == 0 ? NONE : Check.KIDS);
        }
        CHECK.due("law without any", house.forecast(1, Check.TAX, TODAY, 1), 1);
        CHECK.due("none has a value", house.forecasted(0, 1), 0);
    }

    /** What a DRAFT has, is told, amended and refused in it, is its own, whatever LAW 0 has in the same place. */
    private static void draftsOfTheirOwn() {
        CHECK.furnished(1);
        StatuteHouse house = CHECK.house;
        CHECK.law("kids is 1;");
        CHECK.law("kids is 4;");
        CHECK.law("kids is 2;");
        CHECK.due("pass", house.pass(TODAY + 10), 0);
        CHECK.due("draft", CHECK.enact(1, "article 7 from 1990-01-01 { kids is 7; share is 7%; }"), 1);
        CHECK.due("amend", CHECK.enact(1, "amend 7 from 1990-01-01 { put 1: kids is 8; }"), 1);
        CHECK.due("not there", CHECK.enact(1, "amend 1 { strike 1; }"), NONE);
        CHECK.due("not in law 0", CHECK.enact(0, "amend 7 { strike 1; }"), NONE);
        CHECK.due("refused", CHECK.enact(1, "article 7 { kids is 9; } article 8 { kids is }"), NONE);
        CHECK.due("versions of law 0", house.count(8), 3);
        CHECK.due("versions of the draft", house.count(9), 2);
        CHECK.due("by the draft", house.reckon(1, Check.KIDS, 1, TODAY, TODAY + 10), COUNT);
        CHECK.due("as amended", house.value(0), 8);
        CHECK.due("as known before", house.reckon(1, Check.KIDS, 1, TODAY, TODAY + 9), COUNT);
        CHECK.due("nothing was told", house.value(0), -1);
        CHECK.due("by law 0", house.reckon(0, Check.KIDS, 1, TODAY, TODAY), COUNT);
        CHECK.due("as told", house.value(0), 2);
    }

    /** The DAYS from which VERSIONS of a DRAFT hold count there, those of LAW 0 do not. */
    private static void daysOfDrafts() {
        CHECK.furnished(1);
        StatuteHouse house = CHECK.house;
        CHECK.due("law", CHECK.enact(0, "article 1 from 1990-01-01 { tax is 1.00; }"
                + " article 1 from 2000-02-10 { tax is 2.00; }"), 2);
        CHECK.due("draft", CHECK.enact(3, "article 1 from 1990-01-01 { tax is 3.00; }"
                + " article 1 from 2000-02-20 { tax is 4.00; } article 1 from 2000-03-01 { tax is 5.00; }"), 3);
        int[] days = {Check.day(2000, 2, 10), Check.day(2000, 2, 20), Check.day(2000, 3, 1)};
        CHECK.due("changes of law 0", house.changes(0, Check.TAX, 1, TODAY, TODAY + 99, TODAY), 2);
        CHECK.due("day", house.changed(1, 0), days[0]);
        CHECK.due("changes of the draft", house.changes(3, Check.TAX, 1, TODAY, TODAY + 99, TODAY), 3);
        CHECK.due("first day", house.changed(1, 0), days[1]);
        CHECK.due("first value", house.changed(1, 2), 400);
        CHECK.due("second day", house.changed(2, 0), days[2]);
        CHECK.due("second value", house.changed(2, 2), 500);
        long[][] want = {{200, 300}, {200, 400}, {200, 500}};
        for (int i = 0; i < days.length; i++) {
            CHECK.due("measure", house.measure(0, 3, Check.TAX, days[i]), 1);
            CHECK.due("by the first", house.measured(2), want[i][0]);
            CHECK.due("more by the other", house.measured(10), want[i][1] - want[i][0]);
        }
    }

    /** A DRAFT that was told ahead of LAW 0, looked at as known in between. */
    private static void draftsAsKnown() {
        CHECK.furnished(1);
        StatuteHouse house = CHECK.house;
        String law = "article 1 from 1990-01-01 { tax is 3.00; } article 1 from 2000-02-20 { tax is 4.00; }";
        CHECK.due("draft", CHECK.enact(1, law), 2);
        CHECK.due("pass", house.pass(TODAY + 10), 0);
        CHECK.due("law", CHECK.enact(0, law), 2);
        CHECK.due("changes of the draft", house.changes(1, Check.TAX, 1, TODAY, TODAY + 99, TODAY + 9), 2);
        CHECK.due("day", house.changed(1, 0), Check.day(2000, 2, 20));
        CHECK.due("changes of law 0", house.changes(0, Check.TAX, 1, TODAY, TODAY + 99, TODAY + 9), 1);
        CHECK.due("there was none", house.changed(0, 1), 1);
        CHECK.due("there is one now", house.changes(0, Check.TAX, 1, TODAY, TODAY + 99, TODAY + 10), 2);
    }

    private static void kidsAsKnown(int known, long want) {
        CHECK.due("kids known " + known, CHECK.house.reckon(0, Check.KIDS, 1, TODAY, known), COUNT);
        CHECK.due("kids known " + known + " are", CHECK.house.value(0), want);
        CHECK.due("changes known " + known, CHECK.house.changes(0, Check.KIDS, 1, TODAY, TODAY, known), 1);
        CHECK.due("changed known " + known, CHECK.house.changed(0, 2), want);
        CHECK.feed("level(fees, 5.00)");
        CHECK.due("table known " + known, CHECK.house.ask(0, 1, TODAY, known), want == -1 ? -11 : MONEY);
    }

    /** One call behind the other, as known on one DAY and on another one. */
    private static void lawsAsKnown() {
        CHECK.furnished(1);
        StatuteHouse house = CHECK.house;
        CHECK.due("pass", house.pass(TODAY + 10), 0);
        CHECK.law("kids is 1; table fees { 1.00: 2.00; }");
        CHECK.due("pass on", house.pass(TODAY + 20), 0);
        CHECK.law("kids is n; table fees { 1.00: 3.00; }");
        CHECK.due("pass on", house.pass(TODAY + 30), 0);
        tells(1, Check.N, 3);
        int[] knowns = {LAST, TODAY, TODAY + 10, LAST, TODAY + 9, TODAY + 20, TODAY + 19, TODAY + 30, TODAY + 29, 0, LAST};
        long[] want = {3, -1, 1, 3, -1, 0, 1, 3, 0, -1, 3};
        for (int i = 0; i < knowns.length; i++) {
            kidsAsKnown(knowns[i], want[i]);
        }
    }

    /** On a DAY ahead of that on which all was told, as known TODAY. */
    private static void trialsKnownToday() {
        CHECK.furnished(1);
        StatuteHouse house = CHECK.house;
        int day = Check.day(1995, 3, 1);
        CHECK.law("tax is pay; yes is n >= 5; share is 5% when flag; kids is kids;");
        tells(1, Check.PAY, 300);
        CHECK.due("as known then", house.reckon(0, Check.TAX, 1, day, day), -11);
        CHECK.due("as known today", house.reckon(0, Check.TAX, 1, day, TODAY), MONEY);
        CHECK.due("solve", house.solve(0, Check.YES, 1, day, Check.N, 0, 20), 1);
        CHECK.due("solved", house.solved(), 5);
        CHECK.due("measure", house.measure(0, 0, Check.TAX, day), 1);
        CHECK.due("measured", house.measured(2), 300);
        CHECK.due("forecast", house.forecast(0, Check.TAX, day, 1), 1);
        CHECK.due("forecasted", house.forecasted(0, 0), 300);
        CHECK.due("gaps", house.gaps(0, Check.SHARE, day), 1);
        CHECK.due("gap", house.gap(0), 1);
        CHECK.due("ring", house.ring(0, day), Check.KIDS);
        CHECK.due("decide", house.decide(1, Check.TAX, day, 1), 0);
        CHECK.due("decided", house.amount(0, 0), 300);
        CHECK.due("annul", house.annul(27, 1, day), 1);
    }

    /** By the first LAW, then by the other, but behind a FAULT. */
    private static void theOtherLawBehindAFault() {
        CHECK.furnished(1);
        StatuteHouse house = CHECK.house;
        CHECK.law(SHARED_PAY);
        CHECK.due("draft", CHECK.enact(1, "article 2 from 1990-01-01 { tax is part * pay; }"), 1);
        CHECK.due("measure", house.measure(0, 1, Check.TAX, TODAY), 0);
        CHECK.due("a rule, a division and what it stands over", house.count(12), 4);
        failure("by the first", ZERO, Check.TAX, 1, TODAY, 27, 1);
        CHECK.due("the other way round", house.measure(1, 0, Check.TAX, TODAY), 0);
        CHECK.due("a rule, a product and the first that it stands over", house.count(12), 3);
        failure("by the first then", UNKNOWN, Check.TAX, 1, TODAY, 54, 1);
        CHECK.due("how many have none", house.measured(1), 1);
        tells(1, Check.N, 1);
        CHECK.due("by the first alone", house.measure(0, 1, Check.TAX, TODAY), 0);
        CHECK.due("steps of both", house.count(12), 4 + 3);
        failure("by the other", UNKNOWN, Check.TAX, 1, TODAY, 54, 1);
    }

    /** The WEIGHTS are those of the PEOPLE who have a VALUE, not of as many others. */
    private static void weightsOfThoseWithAValue() {
        CHECK.furnished(4);
        StatuteHouse house = CHECK.house;
        CHECK.law("tax is 12.00 / n;");
        int[] ns = {0, 3, 0, 4};
        for (int person = 1; person <= 4; person++) {
            tells(person, Check.N, ns[person - 1]);
            CHECK.due("weight", house.weight(person, Float.floatToRawIntBits(person * 0.3f)), 1);
        }
        CHECK.due("measure", house.measure(0, NONE, Check.TAX, TODAY), 2);
        CHECK.due("have none", house.measured(1), 2);
        CHECK.due("sum", house.measured(2), 700);
        double second = 2 * 0.3f;
        double fourth = 4 * 0.3f;
        CHECK.due("by weights", house.measured(6), Check.bits((second * 400 + fourth * 300) / (second + fourth)));
        CHECK.due("apart", house.measured(7), Check.bits(100.0 / 2.0 / 700.0));
    }

    /** Of two VERSIONS from one DAY on the one told last is in force, in LAW 0 as in the DRAFT. */
    private static void adoptedInOrder() {
        CHECK.furnished(1);
        StatuteHouse house = CHECK.house;
        CHECK.due("draft", CHECK.enact(1, "article 1 from 1990-01-01 { kids is 1; }"
                + " article 1 from 1990-01-01 { kids is 2; } article 2 from 1990-01-01 { share is 5%; }"), 3);
        CHECK.due("amend", CHECK.enact(1, "amend 1 from 1990-01-01 { put 1: kids is 3; }"), 1);
        CHECK.due("adopt", house.adopt(1), 4);
        for (int law = 0; law < 2; law++) {
            CHECK.due("reckon", house.reckon(law, Check.KIDS, 1, TODAY, TODAY), COUNT);
            CHECK.due("the last", house.value(0), 3);
        }
    }

    private static void withdrawnWithoutRecords() {
        CHECK.furnished(1);
        CHECK.due("withdraw", CHECK.house.withdraw(1, Check.N, 0, LAST), 1);
        CHECK.value("n", COUNT, 0, 0);
        CHECK.value("has(n)", 0, 0, 0);
        CHECK.due("in a text", CHECK.facts("person 1 pay withdrawn;"), 1);
        CHECK.due("records", CHECK.house.count(3), 2);
    }

    /** A DECISION of one month from 1 March 2000 (a Wednesday) on, taken then, of what PERSON 1 pays. */
    private static void decided(long cents) {
        CHECK.furnished(1);
        CHECK.law("tax is pay;");
        CHECK.due("pass", CHECK.house.pass(Check.day(2000, 3, 1)), 0);
        tells(1, Check.PAY, cents);
        CHECK.due("decide", CHECK.house.decide(1, Check.TAX, Check.day(2000, 3, 1), 1), 0);
        booking(0, 1, 0, 0, cents, Check.day(2000, 3, 1), 0);
    }

    /** LIMIT and INTEREST stay, if one of the numbers can't be. */
    private static void refusedTerms() {
        decided(100);
        StatuteHouse house = CHECK.house;
        CHECK.due("terms", house.terms(3, 1, 10), 1);
        CHECK.due("no such rate", house.terms(1, 1, 0), RANGE);
        CHECK.due("no such rate, below 0", house.terms(1, -1, 2), RANGE);
        CHECK.due("no such limit", house.terms(601, 1, 2), RANGE);
        CHECK.due("no such limit, below 0", house.terms(-1, 1, 2), RANGE);
        CHECK.due("pass", house.pass(Check.day(2000, 6, 1)), 1);
        tells(1, Check.PAY, 1100);
        CHECK.due("three months may be", house.revise(0), 1);
        booking(2, 1, 0, 0, 300, Check.day(2000, 6, 1), 2);
        CHECK.due("one day more", house.pass(Check.day(2000, 6, 2)), 0);
        tells(1, Check.PAY, 2100);
        CHECK.due("may not be", house.revise(0), 0);
    }

    /** FEE and BAR stay, if one of the numbers can't be. */
    private static void refusedDues() {
        decided(100);
        StatuteHouse house = CHECK.house;
        CHECK.due("dues", house.dues(300, 2), 1);
        CHECK.due("no such bar", house.dues(400, 0), RANGE);
        CHECK.due("no such bar, above", house.dues(400, 601), RANGE);
        CHECK.due("no such fee", house.dues(100001, 1), RANGE);
        CHECK.due("no such fee, below 0", house.dues(-1, 1), RANGE);
        CHECK.due("pass", house.pass(Check.day(2000, 5, 1)), 1);
        CHECK.due("not barred", house.booking(0, 9), 0);
        CHECK.due("remind", house.remind(1), 1);
        booking(1, 1, 0, 0, 300, Check.day(2000, 5, 15), 3, 300, 0, NONE, 0);
        CHECK.due("two months", house.pass(Check.day(2000, 7, 1)), 0);
        CHECK.due("not barred yet", house.booking(0, 9), 0);
        CHECK.due("one day more", house.pass(Check.day(2000, 7, 2)), 0);
        CHECK.due("barred", house.booking(0, 9), 1);
        CHECK.due("the fee is not", house.booking(1, 9), 0);
    }

    /** What is not granted is not reckoned. */
    private static void refusedAnswers() {
        decided(100);
        StatuteHouse house = CHECK.house;
        CHECK.value("1 + 2 * 3", COUNT, 7, 0);
        CHECK.due("steps", house.count(12), 5);
        CHECK.due("object", house.object(0), 1);
        tells(1, Check.PAY, 200);
        CHECK.due("answer", house.answer(0, false), 0);
        CHECK.due("steps stay", house.count(12), 5);
        CHECK.due("amount stays", house.amount(0, 0), 100);
        CHECK.due("final", house.decision(0, 4), 2);
    }

    /** Interest comes if the AMOUNT is more, and only then. */
    private static void interestOfMoreAlone() {
        decided(10000);
        StatuteHouse house = CHECK.house;
        CHECK.due("ends", house.decision(0, 5), Check.day(2000, 4, 3));
        CHECK.due("pass", house.pass(Check.day(2000, 4, 3)), 0);
        tells(1, Check.PAY, 6000);
        CHECK.due("less, though a month late", house.revise(0), 1);
        CHECK.due("one booking", house.count(6), 2);
        booking(1, 1, 0, 0, -4000, Check.day(2000, 4, 3), 1, 0);
        CHECK.due("object", house.object(0), 1);
        CHECK.due("pass far", house.pass(Check.day(2000, 9, 1)), 0);
        tells(1, Check.PAY, 5000);
        CHECK.due("less by an answer", house.answer(0, true), 1);
        CHECK.due("one booking more", house.count(6), 3);
        booking(2, 1, 0, 0, -1000, Check.day(2000, 9, 1), 1, 0);
        tells(1, Check.PAY, 7000);
        CHECK.due("more", house.revise(0), 1);
        CHECK.due("two bookings more", house.count(6), 5);
        booking(3, 1, 0, 0, 2000, Check.day(2000, 9, 1), 1);
        booking(4, 1, 0, 0, 60, Check.day(2000, 9, 1), 2);
    }

    /** n times the difference, times INTEREST, and then NEAR. */
    private static void interestIsRoundedOnce() {
        decided(0);
        StatuteHouse house = CHECK.house;
        CHECK.due("pass", house.pass(Check.day(2000, 6, 1)), 1);
        tells(1, Check.PAY, 101);
        CHECK.due("revise", house.revise(0), 1);
        booking(1, 1, 0, 0, 101, Check.day(2000, 6, 1), 1, 101);
        booking(2, 1, 0, 0, 2, Check.day(2000, 6, 1), 2, 2);
    }

    /** All BOOKINGS but FEES may be reminded of; FEES stand in the account, too. */
    private static void remindersOfWhatIsRevised() {
        interestIsRoundedOnce();
        StatuteHouse house = CHECK.house;
        CHECK.due("pass", house.pass(Check.day(2000, 6, 16)), 0);
        CHECK.due("remind", house.remind(1), 2);
        CHECK.due("reminders of 0", house.booking(0, 7), 0);
        CHECK.due("reminders of 1", house.booking(1, 7), 1);
        CHECK.due("reminders of 2", house.booking(2, 7), 1);
        booking(3, 1, 0, 0, 500, Check.day(2000, 6, 30), 3, 500, 0, NONE, 0);
        booking(4, 1, 0, 0, 500, Check.day(2000, 6, 30), 3, 500, 0, NONE, 0);
        CHECK.due("account ahead", house.account(1, Check.day(2000, 6, 29)), 103);
        CHECK.due("account", house.account(1, Check.day(2000, 6, 30)), 1103);
        CHECK.due("pass more", house.pass(Check.day(2000, 7, 31)), 0);
        CHECK.due("fees are not reminded of", house.remind(1), 2);
        booking(5, 1, 0, 0, 1000, Check.day(2000, 8, 14), 3, 1000, 0, NONE, 0);
    }

    /** The DUE of FEES that is OVER is a FAULT without a TERM. */
    private static void remindersWithoutDue() {
        decided(100);
        StatuteHouse house = CHECK.house;
        CHECK.due("pass near to the end", house.pass(LAST - 100), 1);
        CHECK.due("law", CHECK.enact(0, "article 1 { tax is 1.00; }"), 1);
        CHECK.due("decide", house.decide(1, Check.TAX, Check.day(2079, 3, 1), 1), 1);
        CHECK.due("pass nearer", house.pass(LAST - 13), 1);
        CHECK.fails("1 / 0", ZERO);
        CHECK.due("remind", house.remind(1), -18);
        failure("remind", 8, NONE, NONE, NONE, NONE, 0);
    }

    /** A DECISION that is revised was taken, and ends, as before. */
    private static void whatRevisionsLeave() {
        decided(100);
        StatuteHouse house = CHECK.house;
        CHECK.due("pass", house.pass(Check.day(2000, 3, 20)), 0);
        tells(1, Check.PAY, 200);
        CHECK.due("revise", house.revise(0), 1);
        int[] want = {1, Check.TAX, Check.day(2000, 3, 1), 1, 0, Check.day(2000, 4, 3), Check.day(2000, 3, 1)};
        for (int what = 0; what < want.length; what++) {
            CHECK.due("decision " + what, house.decision(0, what), want[what]);
        }
        CHECK.due("pass on", house.pass(Check.day(2000, 4, 4)), 1);
        tells(1, Check.PAY, 300);
        CHECK.due("revise it", house.revise(0), 1);
        want[4] = 2;
        for (int what = 0; what < want.length; what++) {
            CHECK.due("decision then " + what, house.decision(0, what), want[what]);
        }
    }

    private static void smallCredits() {
        decided(-1);
        CHECK.due("credit of a cent", CHECK.house.credit(1), 1);
        CHECK.due("nothing is open", CHECK.house.booking(0, 6), 0);
        CHECK.due("pay another one", CHECK.house.pay(1, 1), 2);
    }

    private static void stateAccounts() {
        CHECK.furnished(1);
        CHECK.law("tax is 5.00;");
        CHECK.due("nothing", CHECK.house.account(0, LAST), 0);
        CHECK.due("decide", CHECK.house.decide(0, Check.TAX, TODAY, 1), 0);
        CHECK.due("of the state", CHECK.house.account(0, LAST), 500);
        CHECK.due("not of another one", CHECK.house.account(1, LAST), 0);
        CHECK.due("settled", CHECK.house.pay(0, 700), 200);
    }

    private static void annulledOnEarlyDays() {
        CHECK.furnished(1);
        StatuteHouse house = CHECK.house;
        CHECK.due("law", CHECK.enact(0, "article 1 from 1900-01-01 { kids is 3; }"), 1);
        CHECK.due("annul", house.annul(27, 1, 100), 1);
        int size = house.write(0, 99, TODAY);
        CHECK.text("ahead of it", CHECK.out(size), "article 1 {\nkids is 3;\n}\n");
        size = house.write(0, 100, TODAY);
        CHECK.text("from it on", CHECK.out(size), "article 1 {\nvoid;\n}\n");
        size = house.write(0, 100, TODAY - 1);
        CHECK.text("as known before", CHECK.out(size), "");
        CHECK.due("differ", house.differ(0, 99, TODAY, 0, 100, TODAY), 1);
    }

    /** As known on the DAY on which it was told, or later. */
    private static void annulledAsKnown() {
        CHECK.furnished(1);
        StatuteHouse house = CHECK.house;
        CHECK.law("kids is 3;");
        CHECK.due("pass", house.pass(TODAY + 10), 0);
        CHECK.due("annul", house.annul(27, 1, TODAY - 100), 1);
        for (int later = 9; later < 11; later++) {
            int known = TODAY + later;
            int size = house.write(0, TODAY, known);
            CHECK.text("known " + later, CHECK.out(size), "article 1 {\n" + (later < 10 ? "kids is 3;" : "void;") + "\n}\n");
            CHECK.due("reckon", house.reckon(0, Check.KIDS, 1, TODAY, known), COUNT);
            CHECK.due("reckoned", house.value(0), later < 10 ? 3 : -1);
            CHECK.due("differ", house.differ(0, TODAY, known, 0, TODAY, TODAY), later < 10 ? 0 : 1);
            CHECK.due("the other way round", house.differ(0, TODAY, TODAY, 0, TODAY, known), later < 10 ? 0 : 1);
        }
    }

    private static void atoms(String condition, int want) {
        CHECK.furnished(1);
        CHECK.law("kids is 1 when " + condition + ";");
        CHECK.due("gaps by " + condition, CHECK.house.gaps(0, Check.KIDS, TODAY) >= 0 ? 1 : 0, 1);
        CHECK.due("atoms of " + condition, CHECK.house.gap(0), want);
    }

    /** Seen from outside: or, and, not within another PART are of that PART. */
    private static void wholeAtoms() {
        atoms("flag or yes and not n > 1", 3);
        atoms("(flag or yes) of self", 1);
        atoms("(flag and yes) on day", 1);
        atoms("if(flag or yes, not flag, yes)", 1);
        atoms("any(flag or yes, parent)", 1);
        atoms("(flag or yes) = (flag and yes)", 1);
        atoms("not (flag or not (flag and yes))", 2);
        atoms("has(n) or true", 2);
    }

    /** A gaps() that is refused leaves what the one before found. */
    private static void gapsThatAreFull() {
        CHECK.furnished(1);
        StringBuilder rules = new StringBuilder("share is 5% when flag; kids is 1 when flag and n > 1;");
        for (int i = 2; i < 9; i++) {
            rules.append(" except 1/").append(i).append(": kids is ").append(i).append(" when flag;");
        }
        CHECK.law(rules.toString());
        CHECK.due("gaps", CHECK.house.gaps(0, Check.SHARE, TODAY), 1);
        CHECK.due("too deep", CHECK.house.gaps(0, Check.KIDS, TODAY), FULL);
        CHECK.due("no such term", CHECK.house.gaps(0, Check.N, TODAY), NONE);
        CHECK.due("no such law", CHECK.house.gaps(4, Check.KIDS, TODAY), RANGE);
        int[] want = {1, 1, 0, 0, NONE};
        for (int what = 0; what < want.length; what++) {
            CHECK.due("gap " + what, CHECK.house.gap(what), want[what]);
        }
    }

    private static void ringsOfAllKinds() {
        String[] terms = {"yes", "kids", "tax", "share", "when_due", "notice", "index", "head", "whole_tax"};
        for (int i = 0; i < terms.length; i++) {
            CHECK.furnished(1);
            CHECK.law(terms[i] + " is " + terms[i] + ";");
            CHECK.due("ring of " + terms[i], CHECK.house.ring(0, TODAY), Check.YES + i);
        }
    }

    /** The DATES of over, and what stands behind of and on, are for the same PERSON and DAY. */
    private static void ringsByDates() {
        String due = "when_due is 2000-01-01 + kids * 1 days; head is if(kids > 1, self, state);";
        String[] exs = {"over(1, when_due, 2000-01-01)", "over(1, 2000-01-01, when_due)", "n on when_due", "n of head"};
        for (String ex : exs) {
            CHECK.furnished(1);
            CHECK.law("kids is " + ex + "; " + due);
            CHECK.due("ring by " + ex, CHECK.house.ring(0, TODAY), Check.KIDS);
        }
        String[] others = {"over(kids, day, day)", "kids on day", "kids of self", "sum(kids, together)"};
        for (String ex : others) {
            CHECK.furnished(1);
            CHECK.law("kids is " + ex + "; " + due);
            CHECK.due("no ring by " + ex, CHECK.house.ring(0, TODAY), NONE);
        }
    }
}
