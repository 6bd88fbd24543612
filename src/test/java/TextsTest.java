/** Promises 1 to 10: a new object, THE TAPE, texts and what is seen of them at once. */
public final class TextsTest {
    public static void main(String[] args) {
        Check check = new Check();
        newObject(check);
        tape(check);
        names(check);
        tokens(check);
        holidays(check);
        laws(check);
        amendments(check);
        questions(check);
        facts(check);
        check.end("TextsTest");
    }

    private static void newObject(Check check) {
        check.fresh();
        int[] counts = {36524, 0, 1, 0, 0, 0, 0, 0, 0, 0, 0, 0, 0, 0, 0, 0, 0, 0, 0};
        for (int what = 0; what < counts.length; what++) {
            check.due("count " + what, check.house.count(what), counts[what]);
        }
        check.due("count 19", check.house.count(19), -1);
        check.due("count -1", check.house.count(-1), -1);
        check.due("fault 0", check.house.fault(0), 0);
        check.due("fault 1", check.house.fault(1), -1);
        check.due("fault 2", check.house.fault(2), -1);
        check.due("value", check.house.value(0), 0);
        check.due("failed 0", check.house.failed(0), 0);
        check.due("failed 1", check.house.failed(1), -1);
        check.due("why", check.house.why(0, 0), -1);
        check.due("changed", check.house.changed(0, 0), -1);
        check.due("solved", check.house.solved(), 0);
        check.due("decision", check.house.decision(0, 0), -1);
        check.due("amount", check.house.amount(0, 0), Long.MIN_VALUE);
        check.due("booking", check.house.booking(0, 0), Long.MIN_VALUE);
        check.due("measured", check.house.measured(0), 0);
        check.due("forecasted", check.house.forecasted(0, 0), 0);
        check.due("gap", check.house.gap(0), -1);
        check.due("out", check.house.out(0), -1);
        check.due("differs", check.house.differs(0), -1);
        check.due("name", check.house.name(0, 0), -1);
    }

    private static void tape(Check check) {
        check.fresh();
        check.due("feed", check.house.feed(1, 2, 3, 4, 5), 20);
        for (int i = 2; i <= 200; i++) {
            check.due("feed " + i, check.house.feed(0, 0, 0, 0, 0), 20 * i);
        }
        check.due("feed too much", check.house.feed(0, 0, 0, 0, 0), -4);
        check.due("bytes", check.house.count(14), 4000);
        check.due("end behind", check.house.end(4001), -1);
        check.due("end below", check.house.end(-1), -1);
        check.due("end", check.house.end(3981), 3981);
        check.due("feed beyond", check.house.feed(0, 0, 0, 0, 0), -4);
        check.due("end less", check.house.end(3980), 3980);
        check.due("feed just", check.house.feed(0, 0, 0, 0, 0), 4000);
        check.due("end all", check.house.end(0), 0);
        // the highest byte of each int comes first
        check.due("feed a word", check.house.feed(0x66616374, 0x20617474, 0x3a206d6f, 0x6e65793b, 0x20202020), 20);
        check.due("names", check.house.names(), 1);
        check.due("name's bytes", check.house.name(0, 3), 3);
        check.due("name's first byte", check.house.name(0, 10), 'a');
        check.due("name's last byte", check.house.name(0, 12), 't');
        check.due("tape is empty then", check.house.count(14), 0);
    }

    private static void names(Check check) {
        check.furnished(1);
        int[][] want = {{0, 0, 0, 4}, {0, 1, 0, 1}, {0, 2, 0, 3}, {0, 3, 0, 4}, {0, 4, 0, 5}, {0, 5, 0, 4}, {0, 6, 0, 3},
            {0, 7, 0, 6}, {3, 7, 0, 4}, {1, 0, 0, 3}, {1, 1, 0, 4}, {1, 2, 0, 3}, {1, 3, 0, 5}, {1, 4, 0, 8}, {1, 5, 0, 6},
            {1, 6, 0, 5}, {1, 7, 0, 4}, {1, 2, 2, 9}, {2, 3, 0, 5}, {2, 2, 0, 4}};
        for (int name = 0; name < want.length; name++) {
            for (int what = 0; what < 4; what++) {
                check.due("name " + name + " " + what, check.house.name(name, what), want[name][what]);
            }
        }
        check.due("no name", check.house.name(20, 0), -1);
        check.due("no name below", check.house.name(-1, 0), -1);
        check.due("no such what", check.house.name(0, 4), -1);
        check.due("no such what below", check.house.name(0, -1), -1);
        check.due("last byte", check.house.name(Check.WHEN_DUE, 17), 'e');
        check.due("underscore", check.house.name(Check.WHEN_DUE, 14), '_');
        check.due("behind the last byte", check.house.name(Check.WHEN_DUE, 18), -1);
        check.due("more names", check.names("term a1: money up 1; term a2: money near 5; term a3: money even 10;"), 3);
        check.due("mode up", check.house.name(20, 2), 1);
        check.due("mode near", check.house.name(21, 2), 3);
        check.due("mode even", check.house.name(22, 2), 4);
        check.due("no names at all", check.names(" ' nothing but this"), 0);
        check.due("no fault", check.house.fault(0), 0);
        // of a text with a FAULT none comes
        check.due("names with a fault", check.names("fact b1: count; fact b2: number;"), -1);
        check.due("none came", check.house.count(1), 23);
        check.due("its kind", check.house.fault(0), 1);
        check.due("its place", check.house.fault(1), 25);
        check.due("names again", check.names("fact b1: count else -3; fact b2: span else - 4 days;"), 2);
        check.value("b1", 1, -3, 0);
        check.value("b2", 5, 0, -4);
    }

    private static void tokens(Check check) {
        check.furnished(1);
        check.value("1+2", 1, 3, 0);
        check.value("\n1 ' one\n + ' and '' two\n2 'done", 1, 3, 0);
        check.value("000000012", 1, 12, 0);
        check.value("999999999.99", 2, 99999999999L, 0);
        check.value("2000-01-31", 4, 36554, 0);
        check.value("12000-01-01", 1, 11998, 0);
        check.value("2000-1-01", 1, 1998, 0);
        check.value("3>=2", 0, 1, 0);
        check.value("3<2", 0, 0, 0);
        check.value("3#2", 0, 1, 0);
        check.due("a long word", check.ask("abcdefghijklm"), -1);
        check.due("is none", check.house.fault(0), 1);
        check.due("at its first byte", check.house.fault(1), 0);
        check.due("twelve letters", check.ask("abcdefghijkl"), -1);
        check.due("are a name", check.house.fault(0), 2);
        check.due("ten digits", check.ask("1 + 0123456789"), -1);
        check.due("are none", check.house.fault(0), 1);
        check.due("at the first", check.house.fault(1), 4);
        check.due("a digit behind a date", check.ask("2000-01-011"), -1);
        check.due("is of the next", check.house.fault(1), 10);
        check.due("a digit behind money", check.ask("1.001"), -1);
        check.due("is of the next, too", check.house.fault(1), 4);
        check.due("one digit behind a point", check.ask("1.0"), -1);
        check.due("leaves the point", check.house.fault(1), 1);
        check.due("a tab", check.ask("1\t"), -1);
        check.due("is no blank", check.house.fault(1), 1);
        check.due("the end", check.ask("1 + "), -1);
        check.due("has the text's length", check.house.fault(1), 4);
    }

    private static void holidays(Check check) {
        check.fresh();
        int may1 = Check.day(2000, 5, 1);
        check.due("a Monday", check.house.due(may1, 0, 0), may1);
        check.due("a Saturday", check.house.due(may1 - 2, 0, 0), may1);
        check.due("holidays", check.holidays("1 5; easter minus 2; easter plus 1; easter; last monday of 5;"
                + "first tuesday of 6; 29 2;"), 7);
        check.due("how many", check.house.count(7), 7);
        check.due("1 May", check.house.due(may1, 0, 0), may1 + 1);
        check.due("Good Friday 2000", check.house.due(Check.day(2000, 4, 21), 0, 0), Check.day(2000, 4, 25));
        check.due("Easter Monday 2024", check.house.due(Check.day(2024, 4, 1), 0, 0), Check.day(2024, 4, 2));
        check.due("Easter 1943", check.house.due(Check.day(1943, 4, 26), 0, 0), Check.day(1943, 4, 27));
        check.due("last Monday of May", check.house.due(Check.day(2000, 5, 29), 0, 0), Check.day(2000, 5, 30));
        check.due("first Tuesday of June", check.house.due(Check.day(2000, 6, 6), 0, 0), Check.day(2000, 6, 7));
        check.due("29 February", check.house.due(Check.day(2000, 2, 29), 0, 0), Check.day(2000, 3, 1));
        check.due("1 March 2001", check.house.due(Check.day(2001, 3, 1), 0, 0), Check.day(2001, 3, 1));
        check.due("refused holidays", check.holidays("2 5; 31 4;"), -1);
        check.due("those before stay", check.house.due(may1, 0, 0), may1 + 1);
        check.due("the fault's kind", check.house.fault(0), 3);
        check.due("the fault's place", check.house.fault(1), 8);
        check.due("in place of those", check.holidays("2 5;"), 1);
        check.due("1 May works again", check.house.due(may1, 0, 0), may1);
        check.due("none", check.holidays(""), 0);
        // as reckoned for the year of that DAY: 100 DAYS ahead of Easter lies in the year ahead
        check.due("far ahead", check.holidays("easter minus 100;"), 1);
        int ahead = Check.day(2008, 3, 23) - 100;
        check.due("is none", check.house.due(ahead, 0, 0), ahead);
    }

    private static void laws(Check check) {
        check.furnished(1);
        check.due("no such law", check.house.enact(4), -2);
        check.due("no such law below", check.house.enact(-1), -2);
        check.feed("article 1 { tax is 1.00; }");
        check.due("no such law with a text", check.house.enact(4), -2);
        check.due("tape stays", check.house.count(14), 26);
        check.due("then it is enacted", check.house.enact(0), 1);
        check.due("two articles", check.enact(3, "article 1 {} article 999 z from 2079-06-06 { void; }"), 2);
        check.due("versions of 0", check.house.count(8), 1);
        check.due("versions of 3", check.house.count(11), 2);
        check.due("parts", check.house.count(15), 1);
        check.due("rules", check.house.count(18), 1);
        check.due("a refused law", check.enact(0, "article 2 { tax is 2.00; tax is 3; }"), -1);
        check.due("leaves no version", check.house.count(8), 1);
        check.due("leaves no parts", check.house.count(15), 1);
        check.due("leaves no rules", check.house.count(18), 1);
        check.due("an empty law", check.enact(0, ""), -1);
        check.due("must begin", check.house.fault(0), 1);
        check.due("tables", check.enact(0, "article 3 { table slope { 0.00: 10%; 10.00: 20%; }"
                + " table fees { 1.00: 2.00; } }"), 1);
        check.due("rows", check.house.count(17), 3);
        check.due("rules of tables", check.house.count(18), 3);
    }

    private static void amendments(Check check) {
        check.furnished(1);
        check.due("law", check.enact(0, "article 5 a from 1999-01-01 { kids is 1; void; tax is 2.00; }"), 1);
        check.due("amendment", check.enact(0, "amend 5a from 2000-01-01 { strike 3; put 2: tax is 7.00; add yes is true;"
                + " put 4: yes is false; } amend 5a from 2000-01-01 { add share is 1%; }"), 2);
        int size = check.house.write(0, Check.TODAY, Check.TODAY);
        check.text("as amended", check.out(size),
                "article 5a {\nkids is 1;\ntax is 7.00;\nvoid;\nyes is false;\nshare is 1%;\n}\n");
        size = check.house.write(0, Check.TODAY - 1, Check.TODAY);
        check.text("ahead of that", check.out(size), "article 5a {\nkids is 1;\nvoid;\ntax is 2.00;\n}\n");
        check.due("rules ever", check.house.count(18), 6);
    }

    private static void questions(Check check) {
        check.furnished(1);
        check.feed("1");
        check.due("no such law", check.house.ask(4, 1, 0, 0), -2);
        check.due("no such person", check.house.ask(0, 2, 0, 0), -2);
        check.due("no such day", check.house.ask(0, 1, 65536, 0), -2);
        check.due("no such known", check.house.ask(0, 1, 0, -1), -2);
        check.due("tape stays", check.house.count(14), 1);
        check.due("a count", check.house.ask(0, 1, 0, 0), 1);
        check.due("tape is empty", check.house.count(14), 0);
        check.due("parts are gone", check.house.count(15), 0);
        check.value("true", 0, 1, 0);
        check.value("2.50", 2, 250, 0);
        check.value("25%", 3, 1, 4);
        check.value("day", 4, Check.TODAY, 0);
        check.value("2 years", 5, 24, 0);
        check.value("real(3)", 6, Check.bits(3.0), 0);
        check.value("self", 7, 1, 0);
        check.due("a fault of the text", check.ask("1 1"), -1);
        check.due("kind", check.house.fault(0), 1);
        check.due("place", check.house.fault(1), 2);
        check.due("value stays", check.house.value(0), 1);
        check.due("a fault of the reckoning", check.ask("1 / 0"), -17);
        check.due("none of the text", check.house.fault(0), 0);
        check.due("value stays again", check.house.value(0), 1);
    }

    private static void facts(Check check) {
        check.furnished(2);
        check.due("facts", check.facts("person 1 flag is true; person 1 n is -5 from 2000-01-01 until 2000-01-31;"
                + "person 2 pay is 12.34 until 1999-12-31; person 1 part is 150%; person 1 birth is 1970-05-31;"
                + "person 1 gone is - 3 days; person 1 parent is 2; person 1 mate is 0; person 1 mate withdrawn;"), 9);
        check.due("records", check.house.count(3), 9);
        check.value("flag", 0, 1, 0);
        check.value("n", 1, -5, 0);
        check.value("n on (day - 1 days)", 1, 0, 0);
        check.value("n on 2000-01-31", 1, -5, 0);
        check.value("n on 2000-02-01", 1, 0, 0);
        check.value("pay of parent", 2, 0, 0);
        check.value("(pay of parent) on 1900-01-01", 2, 1234, 0);
        check.value("part", 3, 3, 2);
        check.value("birth", 4, Check.day(1970, 5, 31), 0);
        check.value("gone", 5, 0, -3);
        check.value("parent", 7, 2, 0);
        check.value("has(mate)", 0, 0, 0);
        check.due("none of a text with a fault", check.facts("person 2 n is 1; person 2 n is 2; person 2 n is true;"), -1);
        check.due("comes", check.house.count(3), 9);
        check.value("has(n) of parent", 0, 0, 0);
        check.due("no facts", check.facts(""), 0);
    }
}
