/** Two refusals, or two FAULTS, at once: which one is told, by the orders that the document names. */
public final class OrdersTest {
    private static final int NONE = -1;
    private static final int RANGE = -2;
    private static final int STATE = -3;
    private static final int FULL = -4;
    private static final int SYNTAX = 1;
    private static final int NAME = 2;
    private static final int OUT_OF_RANGE = 3;
    private static final int ROOM = 4;
    private static final int KIND = 5;
    private static final int HEIGHT = 6;
    private static final int LACK = 7;
    private static final int TODAY = Check.TODAY;
    private static final int LAST = Check.LAST;
    private static final Check CHECK = new Check();

    public static void main(String[] args) {
        factsAndSuppositions();
        reckonings();
        decisions();
        revisions();
        faultsOfDecisions();
        reminders();
        annulments();
        gaps();
        others();
        faultsOfOneToken();
        the1201stToken();
        faultsOneBehindTheOther();
        partsInOrder();
        faultsOfReckoning();
        CHECK.end("OrdersTest");
    }

    /** NONE, RANGE, FULL. */
    private static void factsAndSuppositions() {
        CHECK.furnished(1);
        StatuteHouse house = CHECK.house;
        for (int i = 1; i <= 16; i++) {
            CHECK.due("record", house.fact(1, Check.N, i, 0, 0, LAST), i);
        }
        CHECK.due("fact: person and value", house.fact(2, Check.N, 1L << 40, 0, 0, 0), NONE);
        CHECK.due("fact: name and value", house.fact(1, Check.TAX, 1L << 60, 0, 0, 0), NONE);
        CHECK.due("fact: name and days", house.fact(1, 99, 0, 0, 2, 1), NONE);
        CHECK.due("fact: value and room", house.fact(1, Check.N, 1L << 40, 0, 0, 0), RANGE);
        CHECK.due("fact: days and room", house.fact(1, Check.N, 0, 0, 2, 1), RANGE);
        CHECK.due("fact: room", house.fact(1, Check.N, 0, 0, 1, 2), FULL);
        CHECK.due("withdraw: person and days", house.withdraw(-1, Check.N, -1, 0), NONE);
        CHECK.due("withdraw: days and room", house.withdraw(1, Check.N, 0, 65536), RANGE);
        CHECK.due("withdraw: room", house.withdraw(1, Check.N, 0, 65535), FULL);
        for (int name = 0; name < 8; name++) {
            CHECK.due("suppose", house.suppose(0, name, 1, 1), name + 1);
        }
        CHECK.due("suppose: person and value", house.suppose(2, Check.N, 1L << 40, 0), NONE);
        CHECK.due("suppose: value and room", house.suppose(1, Check.N, 1L << 40, 0), RANGE);
        CHECK.due("suppose: room", house.suppose(1, Check.N, 1, 0), FULL);
        CHECK.due("weight: person and bits", house.weight(2, 0), NONE);
        CHECK.due("due: day and months", house.due(-1, 2401, 0), RANGE);
        CHECK.due("due: months, and over", house.due(LAST, 2401, 1), RANGE);
        CHECK.due("due: over", house.due(LAST, 2400, 1), FULL);
    }

    private static void reckonings() {
        CHECK.furnished(1);
        StatuteHouse house = CHECK.house;
        CHECK.due("reckon: term and law", house.reckon(4, Check.N, 1, 0, 0), NONE);
        CHECK.due("reckon: term and person", house.reckon(0, 20, 2, -1, -1), NONE);
        CHECK.due("reckon: law and a fault", house.reckon(4, Check.TAX, 1, 0, 0), RANGE);
        CHECK.due("no fault came", house.failed(0), 0);
        CHECK.due("changes: term and days", house.changes(0, Check.N, 1, 5, 4, 0), NONE);
        CHECK.due("changes: days and a fault", house.changes(0, Check.TAX, 1, 5, 4, 0), RANGE);
        CHECK.due("solve: term and law", house.solve(4, Check.TAX, 1, 0, Check.N, 0, 0), NONE);
        CHECK.due("solve: person and law", house.solve(4, Check.YES, 2, 0, Check.N, 0, 0), NONE);
        CHECK.due("solve: fact and numbers", house.solve(0, Check.YES, 1, 0, Check.FLAG, 1, 0), NONE);
        CHECK.due("solve: numbers and a fault", house.solve(0, Check.YES, 1, 0, Check.N, 1, 0), RANGE);
        CHECK.due("solve: law and a fault", house.solve(4, Check.YES, 1, 0, Check.N, 0, 1), RANGE);
        CHECK.due("no fault came still", house.failed(0), 0);
        CHECK.due("solve: a fault", house.solve(0, Check.YES, 1, 0, Check.N, 0, 1), -11);
        CHECK.due("measure: term and law", house.measure(4, 4, Check.KIDS, 0), NONE);
        CHECK.due("measure: term and day", house.measure(0, 0, Check.PAY, -1), NONE);
        CHECK.due("forecast: term and first", house.forecast(0, Check.KIDS, 1, 0), NONE);
        CHECK.due("forecast: term and law", house.forecast(4, Check.KIDS, 0, 1), NONE);
        CHECK.feed("1 1");
        CHECK.due("ask: law and text", house.ask(4, 1, 0, 0), RANGE);
        CHECK.due("no fault of a text", house.fault(0), 0);
        CHECK.due("enact: law and text", house.enact(-1), RANGE);
        CHECK.due("no fault of a text still", house.fault(0), 0);
        CHECK.due("ask: the text", house.ask(0, 1, 0, 0), NONE);
        CHECK.due("ask: a text's fault ahead of the reckoning's", CHECK.ask("1 / 0 1"), NONE);
        CHECK.due("the reckoning's is the one of solve", house.failed(0), 1);
    }

    /** NONE, RANGE, FULL, then the first FAULT. */
    private static void decisions() {
        CHECK.furnished(1);
        StatuteHouse house = CHECK.house;
        CHECK.law("tax is 1.00; whole_tax is 1.00 / n;");
        CHECK.due("decide: person and first", house.decide(2, Check.TAX, 1, 0), NONE);
        CHECK.due("decide: term and months", house.decide(1, Check.KIDS, TODAY, 25), NONE);
        CHECK.due("decide: months and a fault", house.decide(1, Check.WHOLE_TAX, TODAY, 25), RANGE);
        CHECK.due("no fault came", house.failed(0), 0);
        for (int i = 0; i < 16; i++) {
            CHECK.due("decide", house.decide(1, Check.TAX, TODAY, 24), i);
        }
        CHECK.due("decide: first and room for bookings", house.decide(1, Check.TAX, TODAY + 1, 24), RANGE);
        CHECK.due("decide: room for bookings and a fault", house.decide(1, Check.WHOLE_TAX, TODAY, 24), FULL);
        CHECK.due("decide: person and room", house.decide(2, Check.TAX, TODAY, 24), NONE);
        for (int i = 16; i < 30; i++) {
            CHECK.due("decide", house.decide(1, Check.TAX, TODAY, 1), i);
        }
        CHECK.due("decide: months and room for decisions", house.decide(1, Check.TAX, TODAY, 0), RANGE);
        CHECK.due("decide: room for decisions and a fault", house.decide(1, Check.WHOLE_TAX, TODAY, 1), FULL);
        CHECK.due("no fault came still", house.failed(0), 0);
        CHECK.due("pay: person and cents", house.pay(2, 0), NONE);
        CHECK.due("object: none and state", house.object(30), NONE);
        CHECK.due("answer: none and state", house.answer(30, true), NONE);
    }

    /** NONE, STATE, the first FAULT, then FULL. */
    private static void revisions() {
        CHECK.furnished(1);
        StatuteHouse house = CHECK.house;
        CHECK.law("tax is 1.00 * n; whole_tax is 1.00 / n;");
        CHECK.facts("person 1 n is 1;");
        for (int i = 0; i < 16; i++) {
            CHECK.due("decide", house.decide(1, Check.WHOLE_TAX, TODAY, 24), i);
        }
        CHECK.due("decide", house.decide(1, Check.TAX, TODAY, 16), 16);
        CHECK.due("object", house.object(0), 1);
        CHECK.due("object", house.object(1), 1);
        CHECK.due("bookings", house.count(6), 400);
        // now all AMOUNTS of TAX are others, and those of WHOLE_TAX can't be reckoned in one month
        CHECK.facts("person 1 n is 2; person 1 n is 0 from 2000-02-01 until 2000-02-01;");
        CHECK.due("revise: state and a fault", house.revise(0), STATE);
        CHECK.due("answer: state and a fault", house.answer(2, true), STATE);
        CHECK.due("answer: a fault and room", house.answer(0, true), -17);
        CHECK.due("it stays objected", house.decision(0, 4), 1);
        CHECK.due("revise: a fault and room", house.revise(2), -17);
        CHECK.due("revise: room", house.revise(16), FULL);
        CHECK.due("decide: room and a fault", house.decide(1, Check.WHOLE_TAX, TODAY, 2), FULL);
        CHECK.due("not granted", house.answer(0, false), 0);
    }

    /** OVER of ENDS, then month by month of its DUE and of its AMOUNT. */
    private static void faultsOfDecisions() {
        CHECK.furnished(1);
        StatuteHouse house = CHECK.house;
        CHECK.law("tax is 1.00 / n; whole_tax is 1.00;");
        int may = Check.day(2079, 5, 1);
        CHECK.due("pass", house.pass(may), 0);
        CHECK.due("no working days in June 2079", CHECK.holidays("1 6; 2 6; 5 6; 6 6;"), 4);
        CHECK.due("the end is over, and the amount is none", house.decide(1, Check.TAX, may, 1), -18);
        CHECK.due("without a term", house.failed(1), NONE);
        CHECK.due("working days again", CHECK.holidays(""), 0);
        CHECK.due("an amount that is none", house.decide(1, Check.TAX, may, 1), -17);
        CHECK.due("of the term", house.failed(1), Check.TAX);
        CHECK.due("on its first", house.failed(3), may);
        // ENDS is DUE of 1 June; with 2, 5 and 6 June closed, the DUE of a month from then on is still 1 June
        CHECK.due("all but 1 June", CHECK.holidays("2 6; 5 6; 6 6;"), 3);
        CHECK.due("fine", house.decide(1, Check.WHOLE_TAX, may, 2), 0);
        CHECK.due("its end", house.decision(0, 5), Check.day(2079, 6, 1));
        CHECK.due("pass", house.pass(Check.day(2079, 6, 2)), 1);
        CHECK.due("revise: due of today is over", house.revise(0), -18);
        CHECK.due("without a term", house.failed(1), NONE);
        firstMonthsFirst();
        dueAheadOfAmount();
        reckonedAheadOfBooked();
    }

    /** In June 2079 nothing is DUE, while the ENDS of what is decided in April is in May. */
    private static void dueAheadOfAmount() {
        int may = Check.day(2079, 5, 1);
        int june = Check.day(2079, 6, 1);
        String[] rules = {"tax is 1.00;", "tax is 1.00 / n;", "tax is if(day = 2079-06-01, 1.00 / n, 1.00);"};
        int[] faults = {-18, -17, -18};
        int[] days = {NONE, may, NONE};
        for (int i = 0; i < 3; i++) {
            CHECK.furnished(1);
            StatuteHouse house = CHECK.house;
            CHECK.law(rules[i]);
            CHECK.due("no working days in June", CHECK.holidays("1 6; 2 6; 5 6; 6 6;"), 4);
            CHECK.due("pass", house.pass(Check.day(2079, 4, 14)), 0);
            CHECK.due("decide: " + rules[i], house.decide(1, Check.TAX, may, 2), faults[i]);
            CHECK.due("on its first", house.failed(3), days[i]);
            CHECK.due("May alone", house.decide(1, Check.TAX, may, 1), i == 1 ? -17 : 0);
            CHECK.due("June alone", house.decide(1, Check.TAX, june, 1), -18);
            CHECK.due("without a term", house.failed(1), NONE);
        }
    }

    /** DUE of TODAY, then all months are reckoned, then they are booked. */
    private static void reckonedAheadOfBooked() {
        CHECK.furnished(1);
        StatuteHouse house = CHECK.house;
        CHECK.law("tax is pay / (n + 1);");
        CHECK.due("pay", house.fact(1, Check.PAY, -1000000000000L, 0, 0, LAST), 1);
        CHECK.due("decide", house.decide(1, Check.TAX, TODAY, 2), 0);
        CHECK.due("more by too much", house.fact(1, Check.PAY, 1, 0, 0, LAST), 2);
        CHECK.due("over alone", house.revise(0), -18);
        CHECK.due("without a term", house.failed(1), NONE);
        CHECK.due("a division by 0 in the second month", house.fact(1, Check.N, -1, 0, TODAY + 1, LAST), 3);
        CHECK.due("the second month's reckoning first", house.revise(0), -17);
        CHECK.due("on its first", house.failed(3), Check.day(2000, 2, 1));
        CHECK.due("pass", house.pass(LAST), 1);
        CHECK.due("no working day", CHECK.holidays("6 6;"), 1);
        CHECK.due("terms", house.terms(600, 0, 1), 1);
        CHECK.due("due of today first", house.revise(0), -18);
        CHECK.due("without a term", house.failed(1), NONE);
        CHECK.due("no steps", house.count(12), 0);
    }

    private static void firstMonthsFirst() {
        CHECK.furnished(1);
        StatuteHouse house = CHECK.house;
        CHECK.law("tax is 1.00 / n; tax is 1.00 when day = 2000-01-01; except 1/1: tax is 2.00 when day = 2000-01-01 and n = 1;");
        CHECK.due("the first month's fault", house.decide(1, Check.TAX, TODAY, 3), -17);
        CHECK.due("is on its first", house.failed(3), TODAY);
        CHECK.facts("person 1 n is 1;");
        CHECK.due("a conflict in the first", house.decide(1, Check.TAX, TODAY, 3), -12);
        CHECK.facts("person 1 n is 2; person 1 n is 0 from 2000-02-01;");
        CHECK.due("a conflict ahead of a division by 0", house.decide(1, Check.TAX, TODAY, 3), -12);
        CHECK.due("in the first month", house.failed(3), TODAY);
        CHECK.due("the division in the second", house.decide(1, Check.TAX, Check.day(2000, 2, 1), 3), -17);
        CHECK.due("on its first", house.failed(3), Check.day(2000, 2, 1));
    }

    /** Less 18 ahead of FULL. */
    private static void reminders() {
        CHECK.furnished(1);
        StatuteHouse house = CHECK.house;
        CHECK.law("tax is 1.00;");
        CHECK.due("pass", house.pass(65490), 0);
        for (int i = 0; i < 16; i++) {
            CHECK.due("decide", house.decide(1, Check.TAX, TODAY, 24), i);
        }
        CHECK.due("decide", house.decide(1, Check.TAX, TODAY, 16), 16);
        CHECK.due("pass", house.pass(65521), 17);
        CHECK.due("room alone", house.remind(1), FULL);
        CHECK.due("pass", house.pass(65522), 0);
        CHECK.due("the day and room", house.remind(1), -18);
        CHECK.due("none and all that", house.remind(2), NONE);
        CHECK.due("none may be, and all that", house.remind(0), 0);
    }

    /** RANGE, NONE, FULL. */
    private static void annulments() {
        CHECK.furnished(1);
        StatuteHouse house = CHECK.house;
        CHECK.law("tax is 1.00; yes is true;");
        CHECK.due("day and article", house.annul(28, 1, -1), RANGE);
        for (int i = 1; i <= 40; i++) {
            CHECK.due("annul", house.annul(27, 1, TODAY + 100 - i), i);
        }
        CHECK.due("day and room", house.annul(27, 2, 65536), RANGE);
        CHECK.due("number and room", house.annul(27, 3, TODAY), NONE);
        CHECK.due("room", house.annul(27, 2, TODAY), FULL);
    }

    /** NONE, RANGE, FULL. */
    private static void gaps() {
        CHECK.furnished(1);
        StatuteHouse house = CHECK.house;
        StringBuilder nine = new StringBuilder("yes is true when n = 0");
        for (int i = 1; i < 9; i++) {
            nine.append(" or n = ").append(i);
        }
        CHECK.law(nine + ";");
        CHECK.due("term and law", house.gaps(4, Check.N, TODAY), NONE);
        CHECK.due("term and day", house.gaps(0, -1, -1), NONE);
        CHECK.due("day and atoms", house.gaps(0, Check.YES, -1), RANGE);
        CHECK.due("law and atoms", house.gaps(4, Check.YES, TODAY), RANGE);
        CHECK.due("atoms", house.gaps(0, Check.YES, TODAY), FULL);
    }

    private static void others() {
        CHECK.furnished(1);
        StatuteHouse house = CHECK.house;
        CHECK.due("terms: limit and rate", house.terms(-1, -1, 0), RANGE);
        CHECK.due("dues: both", house.dues(-1, 0), RANGE);
        CHECK.due("write: law and day", house.write(4, -1, -1), RANGE);
        CHECK.due("differ: both laws", house.differ(4, 0, 0, 4, 0, 0), RANGE);
        CHECK.due("ring: both", house.ring(4, -1), RANGE);
        String rule = "kids is n + n + n + n + n + n + n + n + n + n;";
        for (int i = 1; i <= 5; i++) {
            CHECK.due("law", CHECK.enact(0, "article " + i + " {" + rule.repeat(40) + "}"), 1);
        }
        CHECK.due("write: too long", house.write(0, TODAY, TODAY), FULL);
        CHECK.due("write: a day and too long", house.write(0, TODAY, 65536), RANGE);
    }

    private static void fault(String marked, int answer, int kind) {
        CHECK.due(marked, answer, NONE);
        CHECK.due(marked + " kind", CHECK.house.fault(0), kind);
        CHECK.due(marked + " place", CHECK.house.fault(1), marked.indexOf('@'));
    }

    private static String text(String marked) {
        return marked.replace("@", "");
    }

    private static void names(String marked, int kind) {
        fault(marked, CHECK.names(text(marked)), kind);
    }

    private static void holidays(String marked, int kind) {
        fault(marked, CHECK.holidays(text(marked)), kind);
    }

    private static void law(String marked, int kind) {
        fault(marked, CHECK.enact(0, text(marked)), kind);
    }

    private static void facts(String marked, int kind) {
        fault(marked, CHECK.facts(text(marked)), kind);
    }

    private static void ask(String marked, int kind) {
        fault(marked, CHECK.ask(text(marked)), kind);
    }

    /** Of one TOKEN the least KIND: SYNTAX, NAME, RANGE, ROOM, KIND, HEIGHT, LACK. */
    private static void faultsOfOneToken() {
        CHECK.furnished(1);
        StringBuilder twenty = new StringBuilder();
        for (int i = 1; i <= 20; i++) {
            twenty.append("fact x").append(i).append(": count;");
        }
        names(twenty + "fact @if: count;", SYNTAX);
        names(twenty + "fact @x1: count;", NAME);
        names(twenty + "fact @x21: count;", ROOM);
        String holidays = "easter;".repeat(20);
        holidays(holidays + "@second monday of 1;", SYNTAX);
        holidays(holidays + "@32 1;", OUT_OF_RANGE);
        holidays(holidays + "@0 1;", OUT_OF_RANGE);
        holidays(holidays + "@1 1;", ROOM);
        holidays(holidays + "@last monday of 13;", ROOM);
        String thirty = "article 1{}".repeat(30);
        law(thirty + "@articles 1{}", SYNTAX);
        law(thirty + "@article 0{}", ROOM);
        String forty = "article 1{" + "void;".repeat(40);
        law(forty + "@is 1;}", SYNTAX);
        law(forty + "@nothing is 1;}", NAME);
        law(forty + "@n is 1;}", NAME);
        law(forty + "@kids is true;}", ROOM);
        law(forty + "@except 0/1: kids is 1;}", ROOM);
        law(forty + "@table n { 1: 1; } }", ROOM);
        law(forty + "} amend 1{@add is}", ROOM);
        law(forty + "} amend 1{@and void;}", SYNTAX);
        StringBuilder rows = new StringBuilder("article 1 { table fees {");
        for (int i = 1; i <= 20; i++) {
            rows.append(i).append(".00: 1.00;");
        }
        law(rows + "@21: 1.00; } }", SYNTAX);
        law(rows + "@20.00: 1.00; } }", OUT_OF_RANGE);
        law(rows + "@10000000.00: 1.00; } }", OUT_OF_RANGE);
        law(rows + "@20.01: 1%; } }", ROOM);
        law("article 1 { void; } amend 1 { strike @0; }", OUT_OF_RANGE);
        law("article 1 { void; } amend 1 { put @100: void; }", OUT_OF_RANGE);
        law("article 1 { void; } amend 1 { strike @99; }", LACK);
        ask("1" + " + 1".repeat(15) + " @+ 1.00", KIND);
        ask("1" + " + 1".repeat(15) + " @+ 1", HEIGHT);
        ask("(".repeat(40) + "day@(", SYNTAX);
        ask("(".repeat(40) + "1 = @(1", ROOM);
        ask("(".repeat(40) + "1 = @not", SYNTAX);
        ask("(".repeat(39) + "1 of @- self", SYNTAX);
        ask("(".repeat(40) + "1 @of - self", ROOM);
    }

    /** A LAW TEXT that goes on in an article without RULES, behind so many TOKENS (1179 and more). */
    private static String ahead(int tokens) {
        String voids = "{" + "void;".repeat(40) + "}";
        String letter = (tokens - 1179) % 2 == 0 ? "" : "a";
        return "article 1 " + letter + voids + ("article 1" + voids).repeat(13) + "article 2{"
                + "void;".repeat((tokens - 1179) / 2);
    }

    /** As above, but in an amendment of an article that has some RULES. */
    private static String aheadInAmendment(int tokens) {
        return ahead(tokens - 4) + "}amend 2{";
    }

    /** What is wrong with the 1201st TOKEN beside that: SYNTAX, NAME, RANGE are told ahead of ROOM, others behind. */
    private static void the1201stToken() {
        CHECK.furnished(1);
        CHECK.due("1200 tokens", CHECK.enact(0, ahead(1199) + "}"), 15);
        CHECK.due("1200 tokens that amend", CHECK.enact(0, aheadInAmendment(1199) + "}"), 16);
        law(ahead(1200) + "@}", ROOM);
        law(ahead(1200) + "@void;}", ROOM);
        law(ahead(1199) + "void@;}", ROOM);
        law(ahead(1200) + "@;}", SYNTAX);
        law(ahead(1200) + "@]", SYNTAX);
        law(ahead(1200) + "@", SYNTAX);
        law(ahead(1200) + "@nothing is 1;}", NAME);
        law(ahead(1200) + "@flag is 1;}", NAME);
        law(ahead(1200) + "@kids is 1;}", ROOM);
        law(ahead(1198) + "kids is @nothing;}", NAME);
        law(ahead(1198) + "kids is @2001-02-29;}", OUT_OF_RANGE);
        law(ahead(1198) + "kids is @2000-02-29;}", ROOM);
        law(ahead(1198) + "kids is @true;}", ROOM);
        law(ahead(1197) + "kids is @true;}", KIND);
        law(ahead(1197) + "kids is 1 @%;}", ROOM);
        law(ahead(1197) + "kids is @10001 %;}", OUT_OF_RANGE);
        law(ahead(1197) + "kids is 1 @+ 1;}", ROOM);
        law(ahead(1195) + "kids is 1 @+ true;}", KIND);
        law(ahead(1194) + "table slope {1.00: @10001 %;}}", OUT_OF_RANGE);
        law(ahead(1194) + "table slope {1.00: 10000 @%;}}", ROOM);
        law(ahead(1194) + "table slope {1.00: 10001 @;}}", SYNTAX);
        law(ahead(1194) + "table fees {1.00: 1 @%;}}", ROOM);
        law(ahead(1193) + "table fees {1.00: @1 %;}}", KIND);
        law(ahead(1198) + "}article @0 {}", OUT_OF_RANGE);
        law(ahead(1199) + "}@article 1 {}", ROOM);
        law(ahead(1198) + "}article @1 {}", ROOM);
        law(ahead(1196) + "}amend @3 {}", LACK);
        law(ahead(1197) + "}amend 3 @{}", ROOM);
        law(aheadInAmendment(1200) + "@strike 99;}", ROOM);
        law(aheadInAmendment(1198) + "strike @99;}", LACK);
        law(aheadInAmendment(1199) + "strike @99;}", ROOM);
        law(aheadInAmendment(1199) + "strike @0;}", OUT_OF_RANGE);
        law(aheadInAmendment(1199) + "strike @a;}", SYNTAX);
        CHECK.due("what is refused leaves no version", CHECK.house.count(8), 31);
    }

    /** The first that is come to. */
    private static void faultsOneBehindTheOther() {
        CHECK.furnished(1);
        names("fact @flag: number;", NAME);
        names("fact a: @number else;", SYNTAX);
        names("fact a: money @up 0;", KIND);
        names("term a: money up @0 else 1;", OUT_OF_RANGE);
        names("fact a: count else @1.00 joins;", KIND);
        names("fact a: count else 1 @joins joins;", KIND);
        names("fact a: rate else @10001 % %;", OUT_OF_RANGE);
        names("fact a: count else @10001 %;", OUT_OF_RANGE);
        names("fact a: count else @1 %", KIND);
        names("fact a: count else 1@", SYNTAX);
        holidays("@32 13;", OUT_OF_RANGE);
        holidays("30 @2 2;", OUT_OF_RANGE);
        holidays("easter plus @101 101;", OUT_OF_RANGE);
        law("article @0 from 2001-02-29 {", OUT_OF_RANGE);
        law("amend 5 from @2001-02-29 {", OUT_OF_RANGE);
        law("amend 5 from 2001-02-28 @}", SYNTAX);
        law("amend @5 from 2001-02-28 { }", LACK);
        law("amend @5 { strike 0; }", LACK);
        law("article 1 { except @0/0: kids is true; }", OUT_OF_RANGE);
        law("article 1 { except 1/@0: nothing is true; }", OUT_OF_RANGE);
        law("article 1 { except 1/1: @nothing is true; }", NAME);
        law("article 1 { table @kids { 1: 1; } }", NAME);
        law("article 1 { table fees { 5.00: @1%; 1.00: 1.00; } }", KIND);
        law("article 1 { table fees { 5.00: @1% 1; } }", KIND);
        law("article 1 { table fees { @10000000.00: 1%; } }", OUT_OF_RANGE);
        facts("person @2 kids is 1;", OUT_OF_RANGE);
        facts("person 1 @kids is 1;", NAME);
        facts("person 1 n is @true from 2001-02-29;", KIND);
        facts("person 1 n is 1 from @2001-02-29 until 1899-01-01;", OUT_OF_RANGE);
        facts("person 1 n is 1 from 2000-01-02 until @2000-01-01", OUT_OF_RANGE);
        facts("person 1 n is 1;".repeat(16) + "@person 1 n is true;", ROOM);
        facts("person 1 n is 1;".repeat(16) + "@person 1 n;", ROOM);
        facts("person 1 n is 1;".repeat(16) + "person @2 n is 1;", OUT_OF_RANGE);
    }

    /** PARTS as soon as they are whole, inner and left ones first, then the ex, then the TOKEN behind. */
    private static void partsInOrder() {
        CHECK.furnished(1);
        ask("(1 @+ true) + (true + 1)", KIND);
        ask("1 + (true @+ 1)", KIND);
        ask("1 + true @* 2 + nothing", KIND);
        ask("1 @+ true + nothing", KIND);
        ask("1 + @nothing + true", NAME);
        ask("true @+ 1 10001 %", KIND);
        ask("true @+ 1 )", KIND);
        ask("@size(true) )", KIND);
        ask("size(true @]", SYNTAX);
        ask("size(true@,", SYNTAX);
        ask("1 = 2 @= true", SYNTAX);
        ask("1 @= true = 2", KIND);
        ask("@not 1 and nothing", KIND);
        ask("@if(1, 2, 3 + 4) + true", KIND);
        ask("if(1, 2, 3 @+ true)", KIND);
        ask("least(1, @nothing) + true", NAME);
        law("article 1 { kids is @true when 1; }", KIND);
        law("article 1 { kids is true @+ 1; }", KIND);
        law("article 1 { kids is @true 1; }", KIND);
        law("article 1 { kids is 1 when @1 1; }", KIND);
        law("article 1 { kids is 1 @1; }", SYNTAX);
        law("article 1 { kids is @true when nothing; }", KIND);
        String high = "1" + " + 1".repeat(15);
        ask(high + " @+ 1 + true", HEIGHT);
        ask(high + " + true @* 2", KIND);
        ask(high + " + @nothing", NAME);
        ask(high + " @+ 1 )", HEIGHT);
        law("article 1 { yes is " + high + " @+ 1; }", HEIGHT);
        law("article 1 { yes is @" + high + "; }", KIND);
    }

    /** FAULTS of a reckoning: operands from the left, what is worked out first fails first; of several at once the least. */
    private static void faultsOfReckoning() {
        CHECK.furnished(1);
        CHECK.law("tax is tax + 1.00; share is 1 / n;");
        CHECK.fails("1 / 0 + 999999999 * 9", 7);
        CHECK.fails("999999999 * 9 / (0 + 1 / 0)", 8);
        CHECK.fails("part * (1 / 0)", 6);
        CHECK.fails("1 / 0 * part", 7);
        CHECK.fails("(1 / 0) of parent", 6);
        CHECK.fails("part on (day - 65535 days)", 8);
        CHECK.fails("tax", 3);
        CHECK.due("of the term that names it", CHECK.house.failed(1), Check.TAX);
        CHECK.due("of its rule", CHECK.house.failed(5), 1);
        CHECK.fails("level(fees, 1.00 / 0)", 7);
        CHECK.fails("level(fees, 1.00)", 1);
        CHECK.fails("over(1 / 0, day, day - 65535 days)", 8);
        CHECK.fails("over(1 / 0, day - 65535 days, day + whole(part) * 1 days)", 8);
        CHECK.fails("up(1.00 / 0, 0.00)", 7);
        CHECK.fails("up(1.00, 0.00 / 0)", 7);
        CHECK.fails("date(2001, 2, whole(29 / 0))", 7);
        CHECK.fails("date(whole(part), whole(1 / 0), 99)", 6);
        CHECK.fails("date(whole(1 / 0), whole(part), 99)", 7);
        CHECK.fails("least(part, 1 / 0)", 6);
        CHECK.fails("if(part = 1, 1 / 0, 1%)", 6);
        CHECK.fails("over(part, day + 65535 days, birth)", 8);
        CHECK.fails("over(part, birth, day + 65535 days)", 6);
        deepAheadOfLong();
    }

    /** A 7th exception that would be the 10,001st STEP is DEEP; a 6th one is LONG. */
    private static void deepAheadOfLong() {
        CHECK.furnished(29);
        StringBuilder law = new StringBuilder("kids is 0;");
        for (int i = 1; i <= 7; i++) {
            law.append("except 1/").append(i).append(": kids is 1;");
        }
        CHECK.law(law.toString());
        // 18 + 321 * 31 + 5 STEPS of looking for parents, and 17 or 18 more
        String look = "over(sum(1, parent), 2000-01-01, 2004-12-31)";
        String looks = (look + " + ").repeat(5) + "over(sum(1, parent), 2000-01-01, 2001-09-30)";
        CHECK.fails("- (" + looks + " + (1" + " + 1".repeat(7) + ")) + kids", 4);
        CHECK.due("steps", CHECK.house.count(12), 10000);
        CHECK.due("of the sixth exception", CHECK.house.failed(5), 7);
        CHECK.fails("- - (" + looks + " + (1" + " + 1".repeat(7) + ")) + kids", 5);
        CHECK.due("of the fifth", CHECK.house.failed(5), 6);
        CHECK.due("steps", CHECK.house.count(12), 10000);
    }
}
