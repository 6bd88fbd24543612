/** FAULTS of texts (II): in each text the sign @ stands ahead of the place where the FAULT is due; it is not fed. */
public final class TextFaultsTest {
    private static final int SYNTAX = 1;
    private static final int NAME = 2;
    private static final int RANGE = 3;
    private static final int ROOM = 4;
    private static final int KIND = 5;
    private static final int HEIGHT = 6;
    private static final int LACK = 7;
    private static final Check CHECK = new Check();

    public static void main(String[] args) {
        CHECK.furnished(2);
        namesTexts();
        holidayTexts();
        lawTexts();
        amendments();
        tables();
        factsTexts();
        operands();
        operators();
        kinds();
        order();
        heights();
        open();
        CHECK.end("TextFaultsTest");
    }

    private static String feed(String marked) {
        String text = marked.replace("@", "");
        CHECK.feed(text);
        return text;
    }

    private static void faultOf(String marked, int answer, int kind) {
        CHECK.due(marked, answer, -1);
        CHECK.due(marked + " kind", CHECK.house.fault(0), kind);
        CHECK.due(marked + " place", CHECK.house.fault(1), marked.indexOf('@'));
        CHECK.due(marked + " tape", CHECK.house.count(14), 0);
    }

    private static void names(String marked, int kind) {
        feed(marked);
        faultOf(marked, CHECK.house.names(), kind);
        CHECK.due(marked + " names", CHECK.house.count(1), 20);
    }

    private static void holidays(String marked, int kind) {
        feed(marked);
        faultOf(marked, CHECK.house.holidays(), kind);
        CHECK.due(marked + " holidays", CHECK.house.count(7), 0);
    }

    private static void law(String marked, int kind) {
        int versions = CHECK.house.count(8);
        feed(marked);
        faultOf(marked, CHECK.house.enact(0), kind);
        CHECK.due(marked + " versions", CHECK.house.count(8), versions);
    }

    private static void rule(String marked, int kind) {
        law("article 1 { " + marked + " }", kind);
    }

    private static void facts(String marked, int kind) {
        feed(marked);
        faultOf(marked, CHECK.house.facts(), kind);
        CHECK.due(marked + " records", CHECK.house.count(3), 0);
    }

    private static void ask(String marked, int kind) {
        feed(marked);
        faultOf(marked, CHECK.house.ask(0, 1, Check.TODAY, Check.TODAY), kind);
    }

    private static void fine(String text) {
        CHECK.due(text + " is refused", CHECK.ask(text) == -1 ? 1 : 0, 0);
        CHECK.due(text + " fault", CHECK.house.fault(0), 0);
    }

    private static void namesTexts() {
        names("@money a: count;", SYNTAX);
        names("fact @if: count;", SYNTAX);
        names("fact @monday: count;", SYNTAX);
        names("fact @12: count;", SYNTAX);
        names("fact a @count;", SYNTAX);
        names("fact a: @number;", SYNTAX);
        names("fact a: @rates;", SYNTAX);
        names("fact a: count@", SYNTAX);
        names("fact a: count @: ;", SYNTAX);
        names("fact a: count else @;", SYNTAX);
        names("fact a: count else - @true;", SYNTAX);
        names("fact a: date else - @2000-01-01;", SYNTAX);
        names("fact a: person joins @else 1;", SYNTAX);
        names("term a: money else 1.00 @up 5;", SYNTAX);
        names("table a: @count;", SYNTAX);
        names("table a: rate @else 1%;", SYNTAX);
        names("fact @flag: count;", NAME);
        names("fact a: count; term @a: count;", NAME);
        names("table @fees: money;", NAME);
        names("term a: money up @0;", RANGE);
        names("fact a: rate else @10001%;", RANGE);
        names("fact a: rate else -@10001%;", RANGE);
        names("fact a: span else @65536 days;", RANGE);
        names("fact a: span else @2401 months;", RANGE);
        names("fact a: span else @201 years;", RANGE);
        names("fact a: date else @1899-12-31;", RANGE);
        names("fact a: date else @2079-06-07;", RANGE);
        names("fact a: date else @2001-02-29;", RANGE);
        names("fact a: count else @20000%;", RANGE);
        names("fact a: money @up 5;", KIND);
        names("term a: count @near 5;", KIND);
        names("fact a: count else @1.00;", KIND);
        names("fact a: rate else @1;", KIND);
        names("fact a: rate else @-1;", KIND);
        names("fact a: span else @3 %;", KIND);
        names("fact a: real else @1;", KIND);
        names("fact a: person else @1;", KIND);
        names("fact a: count @joins;", KIND);
        names("term a: person @joins;", KIND);
        StringBuilder many = new StringBuilder();
        for (int i = 1; i <= 20; i++) {
            many.append("fact x").append(i).append(": count;");
        }
        names(many + "fact @x21: count;", ROOM);
        names(many + "fact @x20: count;", NAME);
    }

    private static void holidayTexts() {
        holidays("@pentecost;", SYNTAX);
        holidays("1 @;", SYNTAX);
        holidays("1 1@", SYNTAX);
        holidays("easter plus @;", SYNTAX);
        holidays("easter @5;", SYNTAX);
        holidays("first @day of 5;", SYNTAX);
        holidays("first monday @5;", SYNTAX);
        holidays("@0 1;", RANGE);
        holidays("@32 1;", RANGE);
        holidays("1 @13;", RANGE);
        holidays("1 @0;", RANGE);
        holidays("30 @2;", RANGE);
        holidays("31 @11;", RANGE);
        holidays("easter minus @101;", RANGE);
        holidays("last sunday of @13;", RANGE);
        holidays("last sunday of @0;", RANGE);
        String twenty = "1 1;".repeat(20);
        CHECK.due("twenty holidays", CHECK.holidays(twenty), 20);
        CHECK.due("none again", CHECK.holidays(""), 0);
        holidays(twenty + "@easter;", ROOM);
        holidays(twenty + "@40 1;", RANGE);
        holidays(twenty + "@fun;", SYNTAX);
    }

    private static void lawTexts() {
        law("@", SYNTAX);
        law("@tax is 1.00;", SYNTAX);
        law("article @a {}", SYNTAX);
        law("article 1 @ab {}", SYNTAX);
        law("article 1 @on 2000-01-01 {}", SYNTAX);
        law("article 1 from @1 {}", SYNTAX);
        law("article 1 {@", SYNTAX);
        law("article 1 {} @x", SYNTAX);
        law("article @0 {}", RANGE);
        law("article @1000 {}", RANGE);
        law("article 1 from @2000-04-31 {}", RANGE);
        rule("@5 is 1;", SYNTAX);
        rule("@strike 1;", SYNTAX);
        rule("@flag is true;", NAME);
        rule("@fees is true;", NAME);
        rule("@what is true;", NAME);
        rule("tax @= 1.00;", SYNTAX);
        law("article 1 { tax is 1.00 @}", SYNTAX);
        rule("tax is @;", SYNTAX);
        rule("tax is 1.00 when @;", SYNTAX);
        rule("tax is 1.00 when true @when true;", SYNTAX);
        rule("tax is @1;", KIND);
        rule("tax is @(1 + 2);", KIND);
        rule("share is @1;", KIND);
        rule("tax is 1.00 when @1;", KIND);
        rule("tax is @1 when;", KIND);
        law("article 1 { void @}", SYNTAX);
        rule("except @: tax is 1.00;", SYNTAX);
        rule("except 1 @: tax is 1.00;", SYNTAX);
        rule("except 1/@a: tax is 1.00;", SYNTAX);
        rule("except 1/1 @tax is 1.00;", SYNTAX);
        rule("except 1/1: @void;", SYNTAX);
        rule("except 1/1: @table fees { 1.00: 1.00; }", SYNTAX);
        rule("except @0/1: tax is 1.00;", RANGE);
        rule("except 1/@0: tax is 1.00;", RANGE);
        rule("except 1/@100: tax is 1.00;", RANGE);
        rule("except @1000 a/1: tax is 1.00;", RANGE);
        String thirty = "article 1{}".repeat(30);
        law(thirty + "@article 1{}", ROOM);
        law(thirty + "@amend 1{}", ROOM);
        law(thirty + "@}", SYNTAX);
        law("article 1 {" + "void;".repeat(40) + "@void;}", ROOM);
        law("article 1 {" + "void;".repeat(40) + "@tax is 1.00;}", ROOM);
        law("article 1 {" + "void;".repeat(40) + "@flag is true;}", NAME);
    }

    private static void amendments() {
        law("amend @7 {}", LACK);
        law("amend @7 from 2000-01-01 {}", LACK);
        law("amend 7 from @2000-00-01 {}", RANGE);
        law("amend 7 @}", SYNTAX);
        law("article 7 from 2000-01-02 {} amend @7 {}", LACK);
        law("article 7 {} amend @7 b {}", LACK);
        law("article 7 { void; } amend 7 { strike @2; }", LACK);
        law("article 7 { void; } amend 7 { put @2: void; }", LACK);
        law("article 7 { void; } amend 7 { strike @0; }", RANGE);
        law("article 7 { void; } amend 7 { put @100: void; }", RANGE);
        law("article 7 { void; } amend 7 { strike 1 @: }", SYNTAX);
        law("article 7 { void; } amend 7 { put 1 @; }", SYNTAX);
        law("article 7 { void; } amend 7 { @void; }", SYNTAX);
        law("article 7 { void; } amend 7 { add @; }", SYNTAX);
        law("article 7 {" + "void;".repeat(40) + "} amend 7 { @add void; }", ROOM);
        CHECK.due("an amendment of one ahead in the text",
                CHECK.enact(1, "article 7 { void; } amend 7 { strike 1; put 1: void; add void; }"), 2);
    }

    private static void tables() {
        rule("table @5 { 1.00: 1%; }", SYNTAX);
        rule("table @tax { 1.00: 1%; }", NAME);
        rule("table @none { 1.00: 1%; }", NAME);
        rule("table slope @1.00: 1%;", SYNTAX);
        rule("table slope { @}", SYNTAX);
        rule("table slope { @1: 1%; }", SYNTAX);
        rule("table slope { 1.00 @1%; }", SYNTAX);
        rule("table slope { 1.00: 1@; }", SYNTAX);
        rule("table slope { 1.00: 1 @days; }", SYNTAX);
        rule("table slope { 1.00: @- 1%; }", SYNTAX);
        rule("table slope { 1.00: @10001%; }", RANGE);
        rule("table slope { @10000000.00: 1%; }", RANGE);
        rule("table fees { 1.00: @10000000.00; }", RANGE);
        rule("table slope { 1.00: 1%; @1.00: 2%; }", RANGE);
        rule("table slope { 1.00: @1.00; }", KIND);
        rule("table fees { 1.00: @1%; }", KIND);
        StringBuilder rows = new StringBuilder("table fees {");
        for (int i = 0; i < 20; i++) {
            rows.append(i).append(".00: 1.00;");
        }
        rule(rows + "@20.00: 1.00; }", ROOM);
        rule(rows + "@19.00: 1.00; }", RANGE);
        rule(rows + "@20: 1.00; }", SYNTAX);
    }

    private static void factsTexts() {
        facts("@people 1 n is 1;", SYNTAX);
        facts("person @n is 1;", SYNTAX);
        facts("person 1 @is 1;", SYNTAX);
        facts("person 1 n @= 1;", SYNTAX);
        facts("person 1 n is @;", SYNTAX);
        facts("person 1 n is @n;", SYNTAX);
        facts("person 1 n is 1 until 2000-01-01 @from 2000-01-01;", SYNTAX);
        facts("person 1 n withdrawn @is 1;", SYNTAX);
        facts("person @3 n is 1;", RANGE);
        facts("person 1 @kids is 1;", NAME);
        facts("person 1 @fees is 1;", NAME);
        facts("person 1 @none is 1;", NAME);
        facts("person 1 parent is @3;", RANGE);
        facts("person 1 parent is @- 1;", KIND);
        facts("person 1 parent is @1%;", KIND);
        facts("person 1 parent is @true;", KIND);
        facts("person 1 odd is @1;", KIND);
        facts("person 1 n is @1%;", KIND);
        facts("person 1 flag is @1;", KIND);
        facts("person 1 n is 1 from @2000-02-30;", RANGE);
        facts("person 1 n is 1 from 2000-02-02 until @2000-02-01;", RANGE);
        String sixteen = "person 1 n is 1;".repeat(16);
        facts(sixteen + "@person 1 n withdrawn;", ROOM);
        facts(sixteen + "@person 1 n $", ROOM);
        facts(sixteen + "person 1 @none is 1;", NAME);
    }

    private static void operands() {
        ask("@", SYNTAX);
        ask("@$", SYNTAX);
        ask("@)", SYNTAX);
        ask("@when", SYNTAX);
        ask("@% 5", SYNTAX);
        ask("1 @2", SYNTAX);
        ask("(1@", SYNTAX);
        ask("(1 @;", SYNTAX);
        ask("@none", NAME);
        ask("@fees", NAME);
        ask("n of @none", NAME);
        ask("if@", SYNTAX);
        ask("if @1", SYNTAX);
        ask("if(true, 1@)", SYNTAX);
        ask("if(true, 1, 2@, 3)", SYNTAX);
        ask("size(1@, 2)", SYNTAX);
        ask("least(1@)", SYNTAX);
        ask("least(1@;", SYNTAX);
        ask("over(1, day@)", SYNTAX);
        ask("has(@1)", SYNTAX);
        ask("has(@tax)", NAME);
        ask("has(n @of self)", SYNTAX);
        ask("sum(n@)", SYNTAX);
        ask("sum(n, @self)", SYNTAX);
        ask("sum(n, @none)", NAME);
        ask("sum(n, @n)", NAME);
        ask("sum(n, @head)", NAME);
        ask("sum(n, together@, n)", SYNTAX);
        ask("level(@n, 1.00)", NAME);
        ask("level(@1.00, fees)", SYNTAX);
        ask("level(fees @1.00)", SYNTAX);
        ask("level(fees, 1.00@, 2.00)", SYNTAX);
        ask("@10001 %", RANGE);
        ask("@65536 days", RANGE);
        ask("@2401 months", RANGE);
        ask("@201 years", RANGE);
        ask("@2001-02-29", RANGE);
        fine("10000%");
        fine("65535 days");
        fine("2400 months");
        fine("200 years");
    }

    private static void operators() {
        ask("1 = 1 @= 1", SYNTAX);
        ask("1 < 2 @# 1", SYNTAX);
        ask("1 on day @on day", SYNTAX);
        ask("1 on @- day", SYNTAX);
        ask("1 of @not self", SYNTAX);
        ask("1 of @-self", SYNTAX);
        ask("1 = @not true", SYNTAX);
        ask("1 + @not 1", SYNTAX);
        ask("- @not true", SYNTAX);
        ask("true @not true", SYNTAX);
        ask("1 and@", SYNTAX);
        ask("1 + @", SYNTAX);
        ask("1 + @;", SYNTAX);
        ask("1 @, 2", SYNTAX);
        fine("not not true");
        fine("- - 1");
        fine("1 * - 2 + - 3");
        fine("not - 1 = 1");
        fine("1 of self of self on day");
    }

    private static void kinds() {
        ask("1 @or true", KIND);
        ask("true @and 1", KIND);
        ask("@not 1", KIND);
        ask("1 @= 1.00", KIND);
        ask("true @< false", KIND);
        ask("1 days @< 2 days", KIND);
        ask("self @>= self", KIND);
        ask("1 @+ 1.00", KIND);
        ask("1 days @+ day", KIND);
        ask("day @+ day", KIND);
        ask("day @+ 1", KIND);
        ask("1.00 @* 1.00", KIND);
        ask("1 days @* 50%", KIND);
        ask("1 days @/ 2", KIND);
        ask("1 @/ 1.00", KIND);
        ask("real(1) @* 2", KIND);
        ask("50% @rem 10%", KIND);
        ask("@- true", KIND);
        ask("@- day", KIND);
        ask("1 @of 1", KIND);
        ask("1 @on 1", KIND);
        ask("@if(1, 2, 3)", KIND);
        ask("@if(true, 2, 3%)", KIND);
        ask("@fullmonths(day, 1)", KIND);
        ask("@least(1, 1%)", KIND);
        ask("@most(true, true)", KIND);
        ask("@least(1 days, 1 days)", KIND);
        ask("@up(1, 1.00)", KIND);
        ask("@date(1, 1, 1%)", KIND);
        ask("@first(1)", KIND);
        ask("@working(1)", KIND);
        ask("@size(day)", KIND);
        ask("@real(real(1))", KIND);
        ask("@root(4)", KIND);
        ask("@cents(4)", KIND);
        ask("@whole(4)", KIND);
        ask("@sum(day, parent)", KIND);
        ask("@count(1, parent)", KIND);
        ask("@any(1, parent)", KIND);
        ask("@greatest(true, parent)", KIND);
        ask("@over(day, day, day)", KIND);
        ask("@over(1, 1, day)", KIND);
        ask("@level(fees, 1)", KIND);
        ask("@slices(fees, 1.00)", KIND);
        ask("@between(slope, 1.00)", KIND);
        fine("1 < 2%");
        fine("2% # 1");
        fine("self = state");
        fine("1 days = 2 days");
    }

    /** The first that is come to; PARTS as soon as they are whole, inner and left ones first. */
    private static void order() {
        ask("1 @+ true )", KIND);
        ask("1 @+ true $", KIND);
        ask("(1 @+ true none", KIND);
        ask("1 + @none + true", NAME);
        ask("@not 1 and none", KIND);
        ask("1 * (2 @+ true) * true", KIND);
        ask("1 @* true * none", KIND);
        ask("1 + true @* 2", KIND);
        ask("@10001 % + true", RANGE);
        ask("1 = 2 + 3 % @$", SYNTAX);
        ask("1 = 1 @= true", SYNTAX);
        ask("1 @= true = 1", KIND);
        ask("@if(1, 2, 3) $", KIND);
        ask("if(1, 2, 3 @$", SYNTAX);
        rule("tax is @1 $", KIND);
        rule("tax is @1 when none;", KIND);
        rule("tax is 1.00 @1.00;", SYNTAX);
    }

    private static void heights() {
        fine("1" + " + 1".repeat(15));
        ask("1" + " + 1".repeat(15) + " @+ 1", HEIGHT);
        ask("1" + " + 1".repeat(15) + " @+ 1 + none", HEIGHT);
        ask("1" + " + 1".repeat(15) + " @+ true", KIND);
        ask("@-" + " -".repeat(15) + " 1", HEIGHT);
        fine("-".repeat(15) + " 1");
        ask("@size(" + "size(".repeat(15) + "1" + ")".repeat(16), HEIGHT);
        // brackets are no PARTS
        fine("(".repeat(30) + "1" + ")".repeat(30));
    }

    private static void open() {
        fine("(".repeat(40) + "1" + ")".repeat(40));
        ask("(".repeat(40) + "@(1" + ")".repeat(41), ROOM);
        ask("(".repeat(40) + "@- 1" + ")".repeat(40), ROOM);
        ask("(".repeat(40) + "@not true" + ")".repeat(40), ROOM);
        ask("(".repeat(40) + "1 @of self" + ")".repeat(40), ROOM);
        ask("(".repeat(40) + "1 @on day" + ")".repeat(40), ROOM);
        ask("(".repeat(40) + "size@(1)" + ")".repeat(40), ROOM);
        ask("(".repeat(40) + "has@(n)" + ")".repeat(40), ROOM);
        ask("(".repeat(40) + "level@(fees, 1.00)" + ")".repeat(40), ROOM);
        ask("(".repeat(40) + "@none" + ")".repeat(40), NAME);
        ask("(".repeat(40) + "has @n" + ")".repeat(40), SYNTAX);
        // what is over is open no more
        fine("(".repeat(38) + "(1) + (1) * - 1 - (- 1) + - 1" + ")".repeat(38));
    }
}
