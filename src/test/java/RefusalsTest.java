import java.util.List;

/**
 * Every call of every promise that refuses something: the last number that is taken stands in the tests of the bounds,
 * here stand the first ones that are refused, what is answered, and that all that can be seen of the house stays as it
 * was. (These houses are looked at with far more than 512 calls; the class counts none.)
 */
public final class RefusalsTest {
    private static final int NONE = -1;
    private static final int RANGE = -2;
    private static final int STATE = -3;
    private static final int FULL = -4;
    private static final int TODAY = Check.TODAY;
    private static final int LAST = Check.LAST;
    private static final int LOW = Integer.MIN_VALUE;
    private static final int HIGH = Integer.MAX_VALUE;
    private static final Check CHECK = new Check();

    /** The house on which calls are refused, and what was seen of it ahead of them. */
    private static StatuteHouse house;
    private static List<String> before;

    /** A call that is to be refused. */
    private interface Call {
        long on(StatuteHouse house);
    }

    public static void main(String[] args) {
        furnish();
        before = Seen.of(house);
        texts();
        time();
        facts();
        reckonings();
        decisions();
        payments();
        drafts();
        looks();
        tellings();
        nothingHappened();
        fullPeople();
        fullRecords();
        fullSuppositions();
        fullDecisions();
        fullAnnulments();
        fullTape();
        CHECK.end("RefusalsTest");
    }

    /** A house in which all things are that can be: 5 PEOPLE, laws, drafts, decisions in all states, and so on. */
    private static void furnish() {
        CHECK.furnished(4);
        house = CHECK.house;
        CHECK.facts("person 1 n is 5; person 1 pay is 12.00; person 2 parent is 1; person 3 mate is 1; person 2 n is 7;"
                + "person 1 part is 10%; person 1 birth is 1970-02-28; person 4 pay is 3.00; person 4 n is 0;");
        CHECK.holidays("1 5; easter plus 1; first monday of 9;");
        CHECK.law("tax is 1.00 * n; yes is pay >= 10.00 when has(n); yes is false when not has(n); kids is count(true, parent);"
                + "except 1/1: tax is pay when flag; table slope { 0.00: 10%; 5.00: 20%; } void; whole_tax is tax / n;");
        CHECK.due("fork", house.fork(1), 1);
        CHECK.due("draft", CHECK.enact(1, "amend 1 { put 1: tax is 2.00 * n; }"), 1);
        CHECK.due("annulled", house.annul(27, 4, TODAY + 50), 1);
        for (int i = 0; i < 3; i++) {
            CHECK.due("decide", house.decide(1, Check.TAX, TODAY, 3), i);
        }
        CHECK.due("object", house.object(1), 1);
        CHECK.due("object", house.object(2), 1);
        CHECK.due("answer", house.answer(2, false), 0);
        CHECK.due("pay", house.pay(2, 99), 99);
        CHECK.due("pass", house.pass(TODAY + 20), 0);
        CHECK.due("remind", house.remind(1), 3);
        CHECK.due("suppose", house.suppose(4, Check.N, 3, 0), 1);
        CHECK.due("weight", house.weight(3, 0x40000000), 1);
        CHECK.due("changes", house.changes(0, Check.TAX, 1, TODAY - 3, TODAY + 3, LAST) > 0 ? 1 : 0, 1);
        CHECK.due("solve", house.solve(0, Check.YES, 1, TODAY, Check.PAY, 0, 5000), 1);
        CHECK.due("measure", house.measure(0, 1, Check.TAX, TODAY), 4);
        CHECK.due("forecast", house.forecast(0, Check.TAX, TODAY, 5), 5);
        CHECK.due("gaps", house.gaps(0, Check.YES, TODAY), 0);
        CHECK.due("differ", house.differ(0, TODAY + 20, TODAY + 20, 1, TODAY + 20, TODAY + 20), 1);
        CHECK.due("a fault", house.reckon(0, Check.WHOLE_TAX, 3, TODAY, TODAY + 20), -17);
        CHECK.due("reckon", house.reckon(0, Check.WHOLE_TAX, 1, TODAY, TODAY + 20), 2);
        CHECK.due("write", house.write(0, TODAY, TODAY) > 0 ? 1 : 0, 1);
        CHECK.feed("fact more: count;");
    }

    private static void refused(String what, long want, Call call) {
        CHECK.due(what, call.on(house), want);
        CHECK.text(what + " changes something", Seen.difference(before, Seen.of(house)), "");
    }

    /** Of a call's number that must be a DAY: the first ones below and above, and the farthest. */
    private static int[] noDays() {
        return new int[] {-1, 65536, LOW, HIGH};
    }

    private static int[] noLaws() {
        return new int[] {-1, 4, LOW, HIGH};
    }

    private static int[] noPeople() {
        return new int[] {-1, 5, LOW, HIGH};
    }

    private static void texts() {
        refused("end below", NONE, h -> h.end(-1));
        refused("end behind", NONE, h -> h.end(18));
        refused("end far behind", NONE, h -> h.end(HIGH));
        for (int law : noLaws()) {
            refused("enact " + law, RANGE, h -> h.enact(law));
            refused("ask law " + law, RANGE, h -> h.ask(law, 1, 0, 0));
        }
        for (int person : noPeople()) {
            refused("ask person " + person, RANGE, h -> h.ask(0, person, 0, 0));
        }
        for (int day : noDays()) {
            refused("ask day " + day, RANGE, h -> h.ask(0, 1, day, 0));
            refused("ask known " + day, RANGE, h -> h.ask(0, 1, 0, day));
        }
    }

    private static void time() {
        for (int day : new int[] {TODAY + 19, -1, 0, 65536, LOW, HIGH}) {
            refused("pass " + day, RANGE, h -> h.pass(day));
        }
        for (int day : noDays()) {
            refused("due " + day, RANGE, h -> h.due(day, 0, 0));
            refused("due " + day + " back", RANGE, h -> h.due(day, -1, -1));
        }
        for (int months : new int[] {-2401, 2401, LOW, HIGH}) {
            refused("due months " + months, RANGE, h -> h.due(TODAY, months, 0));
        }
        for (int days : new int[] {-65536, 65536, LOW, HIGH}) {
            refused("due days " + days, RANGE, h -> h.due(TODAY, 0, days));
        }
        refused("due ahead of the first", FULL, h -> h.due(0, 0, -1));
        refused("due behind the last", FULL, h -> h.due(LAST, 0, 1));
        for (int person : noPeople()) {
            refused("weight " + person, NONE, h -> h.weight(person, 0x3f800000));
        }
        for (int bits : new int[] {0, LOW, 0x49742401, 0x7f800000, 0x7f800001, 0x7fffffff, -1, 0xbf800000, LOW + 1}) {
            refused("weight " + bits, RANGE, h -> h.weight(1, bits));
        }
    }

    /** Two numbers that tell no VALUE of a FACT's KIND. */
    private static void noValue(int name, long a, long b) {
        refused("fact " + name + " " + a + " " + b, RANGE, h -> h.fact(1, name, a, b, 0, LAST));
        refused("suppose " + name + " " + a + " " + b, RANGE, h -> h.suppose(1, name, a, b));
    }

    private static void facts() {
        for (int person : noPeople()) {
            refused("fact of " + person, NONE, h -> h.fact(person, Check.N, 0, 0, 0, 0));
            refused("withdraw of " + person, NONE, h -> h.withdraw(person, Check.N, 0, 0));
            refused("suppose of " + person, NONE, h -> h.suppose(person, Check.N, 0, 0));
        }
        for (int name : new int[] {-1, Check.YES, Check.WHOLE_TAX, Check.SLOPE, Check.FEES, 20, 40, LOW, HIGH}) {
            refused("fact " + name, NONE, h -> h.fact(1, name, 0, 0, 0, 0));
            refused("withdraw " + name, NONE, h -> h.withdraw(1, name, 0, 0));
            refused("suppose " + name, NONE, h -> h.suppose(1, name, 0, 0));
        }
        for (int day : noDays()) {
            refused("fact from " + day, RANGE, h -> h.fact(1, Check.N, 0, 0, day, LAST));
            refused("fact to " + day, RANGE, h -> h.fact(1, Check.N, 0, 0, 0, day));
            refused("withdraw from " + day, RANGE, h -> h.withdraw(1, Check.N, day, LAST));
            refused("withdraw to " + day, RANGE, h -> h.withdraw(1, Check.N, 0, day));
        }
        refused("fact from behind to", RANGE, h -> h.fact(1, Check.N, 0, 0, 1, 0));
        refused("withdraw from behind to", RANGE, h -> h.withdraw(1, Check.N, LAST, LAST - 1));
        values();
    }

    private static void values() {
        long[][] wrong = {
            {Check.FLAG, -1, 0}, {Check.FLAG, 2, 0}, {Check.FLAG, Long.MIN_VALUE, 0}, {Check.FLAG, 1L << 32, 0},
            {Check.N, -2147483649L, 0}, {Check.N, 2147483648L, 0}, {Check.N, Long.MIN_VALUE, 0}, {Check.N, Long.MAX_VALUE, 0},
            {Check.PAY, -1000000000001L, 0}, {Check.PAY, 1000000000001L, 0}, {Check.PAY, Long.MIN_VALUE, 0},
            {Check.PAY, Long.MAX_VALUE, 0},
            {Check.PART, 1, 0}, {Check.PART, 0, 0}, {Check.PART, 0, -1}, {Check.PART, 1, Long.MIN_VALUE},
            {Check.PART, -1000000000001L, 1000000000000L}, {Check.PART, 1000000000001L, 1000000000000L},
            {Check.PART, 0, 1000000000001L}, {Check.PART, 1000001, 1}, {Check.PART, -1000001, 1}, {Check.PART, 1, 1000001},
            {Check.PART, 2000002, 2}, {Check.PART, Long.MIN_VALUE, 1}, {Check.PART, 1, Long.MAX_VALUE},
            {Check.BIRTH, -1, 0}, {Check.BIRTH, 65536, 0}, {Check.BIRTH, Long.MIN_VALUE, 0}, {Check.BIRTH, Long.MAX_VALUE, 0},
            {Check.GONE, -2401, 0}, {Check.GONE, 2401, 0}, {Check.GONE, 0, -65536}, {Check.GONE, 0, 65536},
            {Check.GONE, Long.MIN_VALUE, 0}, {Check.GONE, 0, Long.MIN_VALUE}, {Check.GONE, 0, Long.MAX_VALUE},
            {Check.ODD, Check.bits(Double.POSITIVE_INFINITY), 0}, {Check.ODD, Check.bits(Double.NEGATIVE_INFINITY), 0},
            {Check.ODD, Check.bits(Double.NaN), 0}, {Check.ODD, -1, 0}, {Check.ODD, Long.MAX_VALUE, 0},
            {Check.ODD, 0x7ff0000000000001L, 0},
            {Check.PARENT, -1, 0}, {Check.PARENT, 5, 0}, {Check.PARENT, Long.MAX_VALUE, 0}, {Check.PARENT, 1L << 32, 0},
            {Check.MATE, 5, 0},
        };
        for (long[] one : wrong) {
            noValue((int) one[0], one[1], one[2]);
        }
    }

    private static void reckonings() {
        for (int term : new int[] {-1, Check.N, Check.MATE, Check.SLOPE, 20, LOW, HIGH}) {
            refused("reckon " + term, NONE, h -> h.reckon(0, term, 1, 0, 0));
            refused("changes " + term, NONE, h -> h.changes(0, term, 1, 0, 0, 0));
        }
        for (int law : noLaws()) {
            refused("reckon by " + law, RANGE, h -> h.reckon(law, Check.TAX, 1, 0, 0));
            refused("changes by " + law, RANGE, h -> h.changes(law, Check.TAX, 1, 0, 0, 0));
            refused("solve by " + law, RANGE, h -> h.solve(law, Check.YES, 1, 0, Check.N, 0, 0));
        }
        for (int person : noPeople()) {
            refused("reckon of " + person, RANGE, h -> h.reckon(0, Check.TAX, person, 0, 0));
            refused("changes of " + person, RANGE, h -> h.changes(0, Check.TAX, person, 0, 0, 0));
            refused("solve of " + person, NONE, h -> h.solve(0, Check.YES, person, 0, Check.N, 0, 0));
        }
        for (int day : noDays()) {
            refused("reckon on " + day, RANGE, h -> h.reckon(0, Check.TAX, 1, day, 0));
            refused("reckon known " + day, RANGE, h -> h.reckon(0, Check.TAX, 1, 0, day));
            refused("changes from " + day, RANGE, h -> h.changes(0, Check.TAX, 1, day, day, 0));
            refused("changes to " + day, RANGE, h -> h.changes(0, Check.TAX, 1, LAST, day, 0));
            refused("changes known " + day, RANGE, h -> h.changes(0, Check.TAX, 1, 0, 0, day));
            refused("solve on " + day, RANGE, h -> h.solve(0, Check.YES, 1, day, Check.N, 0, 0));
        }
        refused("changes to ahead of from", RANGE, h -> h.changes(0, Check.TAX, 1, 1, 0, 0));
        refused("changes of 401 days", RANGE, h -> h.changes(0, Check.TAX, 1, 0, 400, 0));
        refused("changes of all days", RANGE, h -> h.changes(0, Check.TAX, 1, 0, LAST, 0));
        solving();
    }

    private static void solving() {
        for (int term : new int[] {-1, Check.FLAG, Check.TAX, Check.KIDS, Check.FEES, 20}) {
            refused("solve term " + term, NONE, h -> h.solve(0, term, 1, 0, Check.N, 0, 0));
        }
        for (int name : new int[] {-1, Check.FLAG, Check.PART, Check.BIRTH, Check.GONE, Check.ODD, Check.PARENT, Check.KIDS,
            Check.TAX, Check.FEES, 20}) {
            refused("solve name " + name, NONE, h -> h.solve(0, Check.YES, 1, 0, name, 0, 0));
        }
        refused("solve low above high", RANGE, h -> h.solve(0, Check.YES, 1, 0, Check.N, 1, 0));
        refused("solve no count below", RANGE, h -> h.solve(0, Check.YES, 1, 0, Check.N, -2147483649L, 0));
        refused("solve no count above", RANGE, h -> h.solve(0, Check.YES, 1, 0, Check.N, 0, 2147483648L));
        refused("solve no money below", RANGE, h -> h.solve(0, Check.YES, 1, 0, Check.PAY, -1000000000001L, 0));
        refused("solve no money above", RANGE, h -> h.solve(0, Check.YES, 1, 0, Check.PAY, 0, 1000000000001L));
        refused("solve both far", RANGE, h -> h.solve(0, Check.YES, 1, 0, Check.PAY, Long.MIN_VALUE, Long.MAX_VALUE));
    }

    private static void decisions() {
        for (int limit : new int[] {-1, 601, LOW, HIGH}) {
            refused("terms limit " + limit, RANGE, h -> h.terms(limit, 0, 1));
        }
        int[][] rates = {{-1, 1}, {1, 0}, {0, 0}, {0, -1}, {1, -1}, {1000001, 1}, {1, 1000001}, {2000002, 2}, {2, 2000002},
            {LOW, 1}, {1, LOW}, {HIGH, HIGH - 1}, {-1, -1}};
        for (int[] rate : rates) {
            refused("terms " + rate[0] + "/" + rate[1], RANGE, h -> h.terms(48, rate[0], rate[1]));
        }
        for (int person : noPeople()) {
            refused("decide for " + person, NONE, h -> h.decide(person, Check.TAX, TODAY, 1));
        }
        for (int term : new int[] {-1, Check.PAY, Check.KIDS, Check.SHARE, Check.FEES, 20, LOW, HIGH}) {
            refused("decide of " + term, NONE, h -> h.decide(1, term, TODAY, 1));
        }
        for (int first : new int[] {-1, 65536, TODAY + 1, TODAY - 1, LAST, LOW, HIGH}) {
            refused("decide from " + first, RANGE, h -> h.decide(1, Check.TAX, first, 1));
        }
        for (int months : new int[] {-1, 0, 25, LOW, HIGH}) {
            refused("decide " + months + " months", RANGE, h -> h.decide(1, Check.TAX, TODAY, months));
        }
        refused("decide beyond the days", RANGE, h -> h.decide(1, Check.TAX, Check.day(2079, 6, 1), 2));
        refused("decide beyond the days", RANGE, h -> h.decide(1, Check.TAX, Check.day(2077, 8, 1), 24));
        for (int number : new int[] {-1, 3, 30, LOW, HIGH}) {
            refused("object to " + number, NONE, h -> h.object(number));
            refused("answer " + number, NONE, h -> h.answer(number, false));
            refused("grant " + number, NONE, h -> h.answer(number, true));
            refused("revise " + number, NONE, h -> h.revise(number));
            refused("decision " + number, NONE, h -> h.decision(number, 0));
            refused("amount " + number, Long.MIN_VALUE, h -> h.amount(number, 0));
        }
        refused("object to an objected one", STATE, h -> h.object(1));
        refused("object to a final one", STATE, h -> h.object(2));
        refused("answer an open one", STATE, h -> h.answer(0, false));
        refused("grant an open one", STATE, h -> h.answer(0, true));
        refused("answer a final one", STATE, h -> h.answer(2, false));
        refused("grant a final one", STATE, h -> h.answer(2, true));
        refused("revise an objected one", STATE, h -> h.revise(1));
        for (int what : new int[] {-1, 7, LOW, HIGH}) {
            refused("decision what " + what, NONE, h -> h.decision(0, what));
        }
        for (int month : new int[] {-1, 3, 24, LOW, HIGH}) {
            refused("amount of month " + month, Long.MIN_VALUE, h -> h.amount(0, month));
        }
    }

    private static void payments() {
        for (int fee : new int[] {-1, 100001, LOW, HIGH}) {
            refused("dues fee " + fee, RANGE, h -> h.dues(fee, 60));
        }
        for (int bar : new int[] {-1, 0, 601, LOW, HIGH}) {
            refused("dues bar " + bar, RANGE, h -> h.dues(500, bar));
        }
        for (int person : noPeople()) {
            refused("pay of " + person, NONE, h -> h.pay(person, 1));
            refused("remind " + person, NONE, h -> h.remind(person));
            refused("credit of " + person, NONE, h -> h.credit(person));
            refused("account of " + person, Long.MIN_VALUE, h -> h.account(person, 0));
        }
        for (long cents : new long[] {0, -1, 1000000000001L, Long.MIN_VALUE, Long.MAX_VALUE}) {
            refused("pay " + cents, RANGE, h -> h.pay(1, cents));
        }
        refused("no reminder may be", 0, h -> h.remind(1));
        refused("no reminder of another", 0, h -> h.remind(2));
        for (int i : new int[] {-1, 12, 400, LOW, HIGH}) {
            refused("booking " + i, Long.MIN_VALUE, h -> h.booking(i, 0));
        }
        for (int what : new int[] {-1, 10, LOW, HIGH}) {
            refused("booking what " + what, Long.MIN_VALUE, h -> h.booking(0, what));
        }
    }

    private static void drafts() {
        for (int draft : new int[] {0, -1, 4, LOW, HIGH}) {
            refused("fork " + draft, RANGE, h -> h.fork(draft));
            refused("adopt " + draft, RANGE, h -> h.adopt(draft));
        }
        for (int term : new int[] {-1, Check.PAY, Check.KIDS, Check.FEES, 20, LOW, HIGH}) {
            refused("measure " + term, NONE, h -> h.measure(0, 1, term, TODAY));
            refused("forecast " + term, NONE, h -> h.forecast(0, term, TODAY, 1));
        }
        for (int law : noLaws()) {
            refused("measure by " + law, RANGE, h -> h.measure(law, 1, Check.TAX, TODAY));
            refused("forecast by " + law, RANGE, h -> h.forecast(law, Check.TAX, TODAY, 1));
        }
        for (int other : new int[] {-2, 4, LOW, HIGH}) {
            refused("measure by other " + other, RANGE, h -> h.measure(0, other, Check.TAX, TODAY));
        }
        for (int day : noDays()) {
            refused("measure on " + day, RANGE, h -> h.measure(0, NONE, Check.TAX, day));
            refused("forecast from " + day, RANGE, h -> h.forecast(0, Check.TAX, day, 1));
        }
        refused("forecast from no first", RANGE, h -> h.forecast(0, Check.TAX, TODAY + 1, 1));
        for (int months : new int[] {-1, 0, 61, LOW, HIGH}) {
            refused("forecast " + months, RANGE, h -> h.forecast(0, Check.TAX, TODAY, months));
        }
        refused("forecast beyond the days", RANGE, h -> h.forecast(0, Check.TAX, Check.day(2079, 6, 1), 2));
        refused("forecast beyond the days", RANGE, h -> h.forecast(0, Check.TAX, Check.day(2074, 8, 1), 60));
    }

    private static void looks() {
        for (int day : noDays()) {
            refused("annul from " + day, RANGE, h -> h.annul(27, 1, day));
            refused("gaps on " + day, RANGE, h -> h.gaps(0, Check.TAX, day));
            refused("ring on " + day, RANGE, h -> h.ring(0, day));
            refused("write on " + day, RANGE, h -> h.write(0, day, 0));
            refused("write known " + day, RANGE, h -> h.write(0, 0, day));
            refused("differ on " + day, RANGE, h -> h.differ(0, day, 0, 0, 0, 0));
            refused("differ known " + day, RANGE, h -> h.differ(0, 0, day, 0, 0, 0));
            refused("differ on other " + day, RANGE, h -> h.differ(0, 0, 0, 0, day, 0));
            refused("differ known other " + day, RANGE, h -> h.differ(0, 0, 0, 0, 0, day));
        }
        for (int law : noLaws()) {
            refused("gaps of " + law, RANGE, h -> h.gaps(law, Check.TAX, 0));
            refused("ring of " + law, RANGE, h -> h.ring(law, 0));
            refused("write " + law, RANGE, h -> h.write(law, 0, 0));
            refused("differ " + law, RANGE, h -> h.differ(law, 0, 0, 0, 0, 0));
            refused("differ other " + law, RANGE, h -> h.differ(0, 0, 0, law, 0, 0));
        }
        for (int term : new int[] {-1, Check.N, Check.FEES, 20, LOW, HIGH}) {
            refused("gaps of " + term, NONE, h -> h.gaps(0, term, 0));
        }
        for (int article : new int[] {-1, 0, 26, 28, 54, 26973, LOW, HIGH}) {
            refused("annul article " + article, NONE, h -> h.annul(article, 1, TODAY));
        }
        for (int number : new int[] {-1, 0, 9, 40, 41, 99, LOW, HIGH}) {
            refused("annul number " + number, NONE, h -> h.annul(27, number, TODAY));
        }
        refused("annul a void rule", NONE, h -> h.annul(27, 7, TODAY));
        refused("annul an annulled rule", NONE, h -> h.annul(27, 4, TODAY + 50));
        refused("annul ahead of its day", NONE, h -> h.annul(27, 1, Check.day(1989, 12, 31)));
    }

    /** What only tells has no state to change, but answers what the document says of what is not there. */
    private static void tellings() {
        for (int what : new int[] {-1, 2, LOW, HIGH}) {
            refused("fault " + what, NONE, h -> h.fault(what));
            refused("value " + what, 0, h -> h.value(what));
        }
        for (int name : new int[] {-1, 20, 40, LOW, HIGH}) {
            refused("name " + name, NONE, h -> h.name(name, 0));
        }
        for (int what : new int[] {-1, 4, 9, 14, LOW, HIGH}) {
            refused("name what " + what, NONE, h -> h.name(Check.FLAG, what));
        }
        for (int what : new int[] {-1, 6, LOW, HIGH}) {
            refused("failed " + what, NONE, h -> h.failed(what));
        }
        for (int i : new int[] {-1, house.count(13), 300, LOW, HIGH}) {
            refused("why " + i, NONE, h -> h.why(i, 0));
        }
        for (int what : new int[] {-1, 10, LOW, HIGH}) {
            refused("why what " + what, NONE, h -> h.why(0, what));
        }
        for (int i : new int[] {-1, 400, LOW, HIGH}) {
            refused("changed " + i, NONE, h -> h.changed(i, 0));
        }
        for (int what : new int[] {-1, 4, LOW, HIGH}) {
            refused("changed what " + what, NONE, h -> h.changed(0, what));
        }
        for (int what : new int[] {-1, 12, LOW, HIGH}) {
            refused("measured " + what, 0, h -> h.measured(what));
        }
        for (int k : new int[] {-1, 5, 60, LOW, HIGH}) {
            refused("forecasted " + k, 0, h -> h.forecasted(k, 1));
        }
        for (int what : new int[] {-1, 2, LOW, HIGH}) {
            refused("forecasted what " + what, 0, h -> h.forecasted(0, what));
        }
        for (int what : new int[] {-1, 5, LOW, HIGH}) {
            refused("gap " + what, NONE, h -> h.gap(what));
        }
        for (int i : new int[] {-1, 12000, LOW, HIGH}) {
            refused("out " + i, NONE, h -> h.out(i));
        }
        for (int i : new int[] {-1, 1, 200, LOW, HIGH}) {
            refused("differs " + i, NONE, h -> h.differs(i));
        }
        for (int what : new int[] {-1, 19, LOW, HIGH}) {
            refused("count " + what, NONE, h -> h.count(what));
        }
    }

    /** The house that was refused so much is held against one that was not, also in what no call tells at once. */
    private static void nothingHappened() {
        StatuteHouse worn = house;
        furnish();
        CHECK.text("the same at once", Seen.difference(Seen.of(worn), Seen.of(house)), "");
        CHECK.due("the text on the tape", worn.names(), house.names());
        CHECK.text("the same laws and facts", Seen.difference(Seen.probed(worn), Seen.probed(house)), "");
        CHECK.due("the same weights", worn.measure(0, 1, Check.TAX, TODAY), house.measure(0, 1, Check.TAX, TODAY));
        CHECK.due("the same fee", worn.pass(TODAY + 40), house.pass(TODAY + 40));
        CHECK.due("the same reminders", worn.remind(1), house.remind(1));
        CHECK.due("the same terms", worn.revise(0), house.revise(0));
        CHECK.due("the same bar", worn.pass(LAST), house.pass(LAST));
        CHECK.text("the same at last", Seen.difference(Seen.of(worn), Seen.of(house)), "");
    }

    private static void begin() {
        house = CHECK.house;
        before = Seen.of(house);
    }

    private static void fullPeople() {
        CHECK.furnished(29);
        begin();
        refused("a 31st person", FULL, h -> h.person());
        refused("a fact of it", NONE, h -> h.fact(30, Check.N, 0, 0, 0, 0));
        refused("a fact that is it", RANGE, h -> h.fact(29, Check.PARENT, 30, 0, 0, 0));
        CHECK.due("the 30th is there", house.fact(29, Check.PARENT, 29, 0, 0, 0), 1);
    }

    private static void fullRecords() {
        CHECK.furnished(3);
        for (int i = 1; i <= 16; i++) {
            CHECK.due("record", i % 2 == 0 ? CHECK.house.withdraw(1, Check.N, 0, 0) : CHECK.house.fact(1, Check.N, i, 0, 0, 0), i);
        }
        begin();
        refused("a 17th", FULL, h -> h.fact(1, Check.N, 1, 0, 0, 0));
        refused("a 17th withdrawn", FULL, h -> h.withdraw(1, Check.N, 0, 0));
        CHECK.due("of another fact", house.fact(1, Check.PAY, 0, 0, 0, 0), 17);
        CHECK.due("of another person", house.withdraw(2, Check.N, 0, 0), 18);
        CHECK.furnished(29);
        for (int i = 0; i < 500; i++) {
            CHECK.due("record", CHECK.house.fact(i % 30, i / 30 % 8, 0, 1, 0, LAST), i + 1);
        }
        begin();
        refused("a 501st", FULL, h -> h.fact(1, Check.MATE, 1, 0, 0, 0));
        refused("a 501st withdrawn", FULL, h -> h.withdraw(1, Check.MATE, 0, 0));
    }

    private static void fullSuppositions() {
        CHECK.furnished(1);
        for (int i = 0; i < 8; i++) {
            CHECK.due("supposition", CHECK.house.suppose(i / 6, i % 6, 1, 1), i + 1);
        }
        begin();
        refused("a ninth", FULL, h -> h.suppose(1, Check.PART, 1, 1));
        refused("a ninth that is wrong", RANGE, h -> h.suppose(1, Check.PART, 1, 0));
        CHECK.due("in place of one", house.suppose(1, Check.N, 2, 0), 8);
        CHECK.value("n", 1, 2, 0);
        CHECK.value("has(part)", 0, 0, 0);
    }

    private static void fullDecisions() {
        CHECK.furnished(1);
        CHECK.law("tax is 1.00 * n; whole_tax is 1.00 / n;");
        CHECK.facts("person 1 n is 1;");
        for (int i = 0; i < 16; i++) {
            CHECK.due("decide", CHECK.house.decide(1, Check.TAX, TODAY, 24), i);
        }
        begin();
        refused("17 months when there is room for 16", FULL, h -> h.decide(1, Check.TAX, TODAY, 17));
        for (int i = 16; i < 30; i++) {
            CHECK.due("decide", house.decide(1, Check.TAX, TODAY, 1), i);
        }
        CHECK.due("object", house.object(0), 1);
        CHECK.facts("person 1 n is 2;");
        begin();
        refused("a 31st decision", FULL, h -> h.decide(1, Check.TAX, TODAY, 1));
        refusedBehindSteps("a revision of 24 months", FULL, h -> h.revise(1));
        refusedBehindSteps("an answer to 24 months", FULL, h -> h.answer(0, true));
        CHECK.due("a revision of one month", house.revise(16), 1);
        CHECK.due("a revision of another one", house.revise(17), 1);
        CHECK.due("all the bookings", house.count(6), 400);
        CHECK.due("pass", house.pass(TODAY + 100), 29);
        begin();
        refusedBehindSteps("a revision of one month", FULL, h -> h.revise(18));
        refused("a reminder", FULL, h -> h.remind(1));
        CHECK.due("not granted", house.answer(0, false), 0);
    }

    /** As refused(), of a call that reckoned before it was refused: what it counted of STEPS is another matter. */
    private static void refusedBehindSteps(String what, long want, Call call) {
        List<String> earlier = Seen.without(Seen.of(house), "count 12 ");
        CHECK.due(what, call.on(house), want);
        List<String> later = Seen.without(Seen.of(house), "count 12 ");
        CHECK.text(what + " changes something", Seen.difference(earlier, later), "");
        before = Seen.of(house);
    }

    private static void fullAnnulments() {
        CHECK.furnished(1);
        CHECK.law("tax is 1.00; yes is true;");
        for (int i = 1; i <= 40; i++) {
            CHECK.due("annul", CHECK.house.annul(27, 1, TODAY + 100 - i), i);
        }
        begin();
        refused("a 41st", FULL, h -> h.annul(27, 2, TODAY));
        refused("a 41st of an annulled one", NONE, h -> h.annul(27, 1, TODAY + 99));
        CHECK.due("the other rule is in force", house.reckon(0, Check.YES, 1, TODAY, TODAY), 0);
    }

    private static void fullTape() {
        CHECK.furnished(1);
        for (int i = 1; i <= 200; i++) {
            CHECK.due("feed", CHECK.house.feed(0x20202020, 0x20202020, 0x20202020, 0x20202020, 0x20202031), 20 * i);
        }
        begin();
        refused("twenty more", FULL, h -> h.feed(0, 0, 0, 0, 0));
        CHECK.due("one less", house.end(3999), 3999);
        begin();
        refused("one too many", FULL, h -> h.feed(0, 0, 0, 0, 0));
        CHECK.due("its end", house.end(20), 20);
        CHECK.due("what was fed first", house.ask(0, 1, 0, 0), 1);
    }
}
