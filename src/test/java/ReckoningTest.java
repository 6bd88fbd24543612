/** Promises 19 to 27: reckoning with RULES and exceptions, REASONS, FAULTS, changes and solving. */
public final class ReckoningTest {
    private static final int NONE = -1;
    private static final int RANGE = -2;
    private static final int TODAY = Check.TODAY;
    private static final int LAST = Check.LAST;
    private static final Check CHECK = new Check();

    public static void main(String[] args) {
        rules();
        exceptions();
        versions();
        rounding();
        reasons();
        reasonsOfFaults();
        told();
        ringsAndDepth();
        steps();
        faults();
        changes();
        solve();
        CHECK.end("ReckoningTest");
    }

    private static void reckons(int term, int person, int day, int kind, long first) {
        String what = "term " + term + " of " + person + " on " + day;
        CHECK.due(what, CHECK.house.reckon(0, term, person, day, LAST), kind);
        if (kind >= 0) {
            CHECK.due(what + " value", CHECK.house.value(0), first);
        }
    }

    private static void failure(int fault, int term, int person, int day, int article, int number) {
        int[] want = {fault, term, person, day, article, number};
        for (int what = 0; what < 6; what++) {
            CHECK.due("failed " + what, CHECK.house.failed(what), want[what]);
        }
        CHECK.due("failed 6", CHECK.house.failed(6), NONE);
        CHECK.due("failed -1", CHECK.house.failed(-1), NONE);
    }

    private static void rules() {
        CHECK.furnished(1);
        CHECK.due("no term", CHECK.house.reckon(0, Check.N, 1, TODAY, TODAY), NONE);
        CHECK.due("no term", CHECK.house.reckon(0, Check.FEES, 1, TODAY, TODAY), NONE);
        CHECK.due("no name", CHECK.house.reckon(9, 20, 9, -1, -1), NONE);
        CHECK.due("no law", CHECK.house.reckon(4, Check.TAX, 1, TODAY, TODAY), RANGE);
        CHECK.due("no person", CHECK.house.reckon(0, Check.TAX, 2, TODAY, TODAY), RANGE);
        CHECK.due("no day", CHECK.house.reckon(0, Check.TAX, 1, 65536, TODAY), RANGE);
        CHECK.due("no known", CHECK.house.reckon(0, Check.TAX, 1, TODAY, -1), RANGE);
        reckons(Check.TAX, 1, TODAY, -11, 0);
        failure(1, Check.TAX, 1, TODAY, NONE, 0);
        reckons(Check.KIDS, 1, TODAY, 1, -1);
        reckons(Check.SHARE, 1, TODAY, 3, 1);
        CHECK.due("20% is one fifth", CHECK.house.value(1), 5);
        CHECK.due("no such value", CHECK.house.value(2), 0);
        CHECK.law("tax is 1.00 when n = 1; tax is 2.00 when n >= 1; tax is 1.00 / 0 when n = 1;"
                + "kids is 3; share is 1% when flag;");
        reckons(Check.TAX, 1, TODAY, -11, 0);
        reckons(Check.KIDS, 1, TODAY, 1, 3);
        CHECK.house.suppose(1, Check.N, 2, 0);
        reckons(Check.TAX, 1, TODAY, 2, 200);
        CHECK.house.suppose(1, Check.N, 1, 0);
        // the second that HOLDS is worked out, those behind it not
        reckons(Check.TAX, 1, TODAY, -12, 0);
        failure(2, Check.TAX, 1, TODAY, NONE, 0);
        CHECK.due("value stays", CHECK.house.value(0), 200);
        CHECK.due("by another law", CHECK.house.reckon(1, Check.TAX, 1, TODAY, LAST), -11);
    }

    private static void exceptions() {
        CHECK.furnished(1);
        CHECK.law("tax is 1.00; except 1/1: tax is 2.00 when n = 2; except 1/2: tax is 3.00 when flag;"
                + "except 1/1: tax is 4.00 when n >= 2; except 1/99: tax is 5.00; except 2/1: tax is 6.00;"
                + "except 1/7: tax is 7.00; except 1/9: yes is true; yes is false; except 1/1: yes is true;");
        reckons(Check.TAX, 1, TODAY, 2, 100);
        CHECK.house.suppose(1, Check.N, 3, 0);
        reckons(Check.TAX, 1, TODAY, 2, 400);
        CHECK.house.suppose(1, Check.N, 2, 0);
        reckons(Check.TAX, 1, TODAY, -12, 0);
        failure(2, Check.TAX, 1, TODAY, 27, 1);
        // an exception that gives way HOLDS by the VALUE of its own
        CHECK.house.suppose(1, Check.N, 1, 0);
        CHECK.house.suppose(1, Check.FLAG, 1, 0);
        reckons(Check.TAX, 1, TODAY, 2, 300);
        reckons(Check.YES, 1, TODAY, 0, 1);
    }

    private static void versions() {
        CHECK.furnished(1);
        CHECK.due("two at once", CHECK.enact(0, "article 1 from 1995-01-01 { tax is 1.00; }"
                + " article 1 from 1998-01-01 { tax is 2.00; }"), 2);
        CHECK.due("pass", CHECK.house.pass(TODAY + 10), 0);
        CHECK.due("later told", CHECK.enact(0, "article 1 from 1996-01-01 { tax is 3.00; }"
                + " article 1 from 1998-01-01 { tax is 4.00; }"), 2);
        int[] days = {Check.day(1994, 12, 31), Check.day(1995, 1, 1), Check.day(1996, 1, 1), Check.day(1998, 1, 1)};
        int[] before = {-11, 100, 100, 200};
        int[] now = {-11, 100, 300, 400};
        for (int i = 0; i < days.length; i++) {
            int kind = CHECK.house.reckon(0, Check.TAX, 1, days[i], TODAY + 9);
            CHECK.due("known before " + i, kind == 2 ? CHECK.house.value(0) : kind, before[i]);
            kind = CHECK.house.reckon(0, Check.TAX, 1, days[i], TODAY + 10);
            CHECK.due("known now " + i, kind == 2 ? CHECK.house.value(0) : kind, now[i]);
        }
        CHECK.due("known never", CHECK.house.reckon(0, Check.TAX, 1, TODAY, TODAY - 1), -11);
    }

    private static void rounding() {
        CHECK.furnished(1);
        CHECK.due("modes", CHECK.names("term a: money up 100; term b: money near 100; term c: money even 100;"
                + "term d: money up 7 else 0.01;"), 4);
        CHECK.law("whole_tax is pay; a is pay; b is pay; c is pay; d is pay when flag;");
        CHECK.house.suppose(1, Check.PAY, 250, 0);
        reckons(Check.WHOLE_TAX, 1, TODAY, 2, 200);
        reckons(20, 1, TODAY, 2, 300);
        reckons(21, 1, TODAY, 2, 300);
        reckons(22, 1, TODAY, 2, 200);
        // an else is not rounded
        reckons(23, 1, TODAY, 2, 1);
        CHECK.house.suppose(1, Check.FLAG, 1, 0);
        reckons(23, 1, TODAY, 2, 252);
        CHECK.house.suppose(1, Check.PAY, 1000000000000L, 0);
        reckons(23, 1, TODAY, -18, 0);
        failure(8, 23, 1, TODAY, 27, 5);
    }

    private static void line(int i, long... want) {
        for (int what = 0; what < want.length; what++) {
            CHECK.due("line " + i + " what " + what, CHECK.house.why(i, what), want[what]);
        }
        CHECK.due("line " + i + " what 10", CHECK.house.why(i, 10), NONE);
        CHECK.due("line " + i + " what -1", CHECK.house.why(i, -1), NONE);
    }

    private static void reasons() {
        CHECK.furnished(2);
        CHECK.due("law", CHECK.enact(0, "article 2 b from 1990-01-01 { void; tax is pay * share of parent;"
                + " except 2b/2: tax is 9.00 when flag; }"
                + " article 3 from 1990-01-01 { share is 50%; except 3/1: share is 25% when n = 0; }"), 2);
        CHECK.facts("person 1 pay is 10.00; person 1 parent is 2;");
        reckons(Check.TAX, 1, TODAY, 2, 250);
        line(0, 1, 0, Check.TAX, 1, TODAY, NONE, 0, 0, 250, 0);
        line(1, 2, 1, Check.TAX, 1, TODAY, 56, 2, 1, 250, 0);
        line(2, 2, 1, Check.TAX, 1, TODAY, 56, 3, 0, 0, 0);
        line(3, 3, 1, Check.FLAG, 1, TODAY, NONE, 0, 0, 0, 0);
        line(4, 3, 1, Check.PAY, 1, TODAY, NONE, 0, 0, 1000, 0);
        line(5, 3, 1, Check.PARENT, 1, TODAY, NONE, 0, 0, 2, 0);
        line(6, 1, 1, Check.SHARE, 2, TODAY, NONE, 0, 0, 1, 4);
        line(7, 2, 2, Check.SHARE, 2, TODAY, 81, 1, 2, 1, 4);
        line(8, 2, 2, Check.SHARE, 2, TODAY, 81, 2, 1, 1, 4);
        line(9, 3, 2, Check.N, 2, TODAY, NONE, 0, 0, 0, 0);
        CHECK.due("lines", CHECK.house.count(13), 10);
        CHECK.due("no line", CHECK.house.why(10, 0), NONE);
        CHECK.due("no line below", CHECK.house.why(-1, 0), NONE);
        CHECK.due("steps", CHECK.house.count(12), 14);
        String want = "tax of 1 on 2000-01-01: 2.50\n 2b/2: 2.50\n 2b/3: no\n = flag of 1 on 2000-01-01: false\n"
                + " = pay of 1 on 2000-01-01: 10.00\n = parent of 1 on 2000-01-01: 2\n"
                + " share of 2 on 2000-01-01: 1/4\n  3/1: gives way: 1/4\n  3/2: 1/4\n  = n of 2 on 2000-01-01: 0\n";
        CHECK.due("tell", CHECK.house.tell(), want.length());
        CHECK.text("tell", CHECK.out(want.length()), want);
        CHECK.due("behind out", CHECK.house.out(want.length()), NONE);
        // what does not reckon leaves them; a question has its own
        CHECK.house.reckon(0, Check.TAX, 9, 0, 0);
        CHECK.ask("1 +");
        CHECK.house.measure(0, NONE, Check.TAX, TODAY);
        CHECK.due("lines stay", CHECK.house.count(13), 10);
        CHECK.ask("n + 1");
        CHECK.due("a question's line", CHECK.house.count(13), 1);
        line(0, 3, 0, Check.N, 1, TODAY, NONE, 0, 0, 0, 0);
    }

    private static void reasonsOfFaults() {
        CHECK.furnished(1);
        CHECK.law("tax is 1.00 when kids = 0; kids is 1 rem n; yes is part = 1;");
        reckons(Check.TAX, 1, TODAY, -17, 0);
        failure(7, Check.KIDS, 1, TODAY, 27, 2);
        line(0, 1, 0, Check.TAX, 1, TODAY, NONE, 0, 0, 0, 0);
        line(1, 2, 1, Check.TAX, 1, TODAY, 27, 1, 0, 0, 0);
        line(2, 1, 1, Check.KIDS, 1, TODAY, NONE, 0, 0, 0, 0);
        line(3, 2, 2, Check.KIDS, 1, TODAY, 27, 2, 0, 0, 0);
        line(4, 3, 2, Check.N, 1, TODAY, NONE, 0, 0, 0, 0);
        String want = "tax of 1 on 2000-01-01: none\n 1/1: no\n kids of 1 on 2000-01-01: none\n  1/2: no\n"
                + "  = n of 1 on 2000-01-01: 0\n";
        CHECK.due("tell", CHECK.house.tell(), want.length());
        CHECK.text("tell", CHECK.out(want.length()), want);
        reckons(Check.YES, 1, Check.day(1995, 5, 5), -16, 0);
        failure(6, Check.YES, 1, Check.day(1995, 5, 5), 27, 3);
        CHECK.due("the fact's line", CHECK.house.why(2, 2), Check.PART);
        want = "yes of 1 on 1995-05-05: none\n 1/3: no\n = part of 1 on 1995-05-05: none\n";
        CHECK.due("tell", CHECK.house.tell(), want.length());
        CHECK.text("tell", CHECK.out(want.length()), want);
        CHECK.due("a question without a term", CHECK.ask("1 / 0"), -17);
        failure(7, NONE, NONE, NONE, NONE, 0);
    }

    private static void told() {
        CHECK.furnished(1);
        CHECK.law("yes is true; kids is - 5; tax is - 0.05; when_due is 2079-06-06; notice is 1 months - 2 days;"
                + "index is - real(0); head is self; share is - 1%;");
        int[] terms = {Check.YES, Check.KIDS, Check.TAX, Check.WHEN_DUE, Check.NOTICE, Check.INDEX, Check.HEAD, Check.SHARE};
        String[] want = {"true", "-5", "-0.05", "2079-06-06", "1 months -2 days", "-9223372036854775808", "1", "-1/100"};
        String[] names = {"yes", "kids", "tax", "when_due", "notice", "index", "head", "share"};
        for (int i = 0; i < terms.length; i++) {
            CHECK.house.reckon(0, terms[i], 1, TODAY, TODAY);
            String told = names[i] + " of 1 on 2000-01-01: " + want[i] + "\n 1/" + (i + 1) + ": " + want[i] + "\n";
            CHECK.due("tell " + want[i], CHECK.house.tell(), told.length());
            CHECK.text("tell", CHECK.out(told.length()), told);
        }
    }

    private static void ringsAndDepth() {
        CHECK.fresh();
        StringBuilder names = new StringBuilder("fact f: count else 0; ");
        StringBuilder law = new StringBuilder();
        for (int i = 1; i <= 13; i++) {
            names.append("term t").append(i).append(": count;");
            law.append("t").append(i).append(" is ").append(i < 13 ? "t" + (i + 1) : "f").append(";");
        }
        names.append("term r: count; term s: count; term u: count;");
        law.append("r is s; s is if(f = 0, r, r on (day + 1 days)); u is 0;");
        for (int i = 0; i < 6; i++) {
            law.append("except 1/").append(16 + i).append(": u is ").append(i + 1).append(";");
        }
        CHECK.due("names", CHECK.names(names.toString()), 17);
        CHECK.law(law.toString());
        reckons(2, 0, TODAY, 1, 0);
        reckons(1, 0, TODAY, -14, 0);
        failure(4, 12, 0, TODAY, 27, 12);
        CHECK.due("no line of the 13th", CHECK.house.count(13), 24);
        reckons(14, 0, TODAY, -13, 0);
        failure(3, 15, 0, TODAY, 27, 15);
        // another DAY is no ring, but it is deep at last
        CHECK.house.suppose(0, 0, 1, 0);
        reckons(14, 0, TODAY, -14, 0);
        CHECK.house.suppose(0, 0, 1, 0);
        reckons(14, 0, LAST, -18, 0);
        // six exceptions in one another, then a seventh
        reckons(16, 0, TODAY, 1, 6);
        CHECK.due("one more", CHECK.enact(0, "amend 1 { add except 1/22: u is 7; }"), 1);
        reckons(16, 0, TODAY, -14, 0);
        failure(4, 16, 0, TODAY, 27, 22);
    }

    private static void steps() {
        CHECK.furnished(29);
        CHECK.law("kids is sum(1, together); tax is 1.00 when sum(kids, together) = n; yes is n + n = n;");
        reckons(Check.YES, 1, TODAY, 0, 1);
        CHECK.due("a rule and five parts", CHECK.house.count(12), 6);
        reckons(Check.KIDS, 1, TODAY, 1, 1);
        CHECK.due("a rule, two parts and all people", CHECK.house.count(12), 33);
        // all hang together: each of the thirty looks at thirty
        for (int person = 1; person < 30; person++) {
            CHECK.house.fact(person, Check.MATE, 0, 0, 0, LAST);
        }
        CHECK.house.suppose(1, Check.N, 900, 0);
        reckons(Check.TAX, 1, TODAY, 2, 100);
        CHECK.due("steps", CHECK.house.count(12), 1 + 1 + 1 + 30 + 30 * (1 + 1 + 1 + 30 + 30) + 1 + 1);
        CHECK.due("deeper", CHECK.enact(0, "article 2 { share is 1% when sum(sum(kids, together), together) = 0; }"), 1);
        reckons(Check.SHARE, 1, TODAY, -15, 0);
        CHECK.due("all steps", CHECK.house.count(12), 10000);
        CHECK.due("long", CHECK.house.failed(0), 5);
        CHECK.due("many lines are lost", CHECK.house.count(13) > 300 ? 1 : 0, 1);
        CHECK.due("the last that is kept", CHECK.house.why(299, 0) > 0 ? 1 : 0, 1);
        CHECK.due("the first that is lost", CHECK.house.why(300, 0), NONE);
        CHECK.due("no such ring", CHECK.house.ring(0, TODAY), NONE);
        // steps of a call are those of all its reckonings
        CHECK.house.changes(0, Check.TAX, 1, TODAY, TODAY + 9, TODAY);
        CHECK.due("changes stop being reckoned", CHECK.house.changed(1, 1), 5);
        CHECK.due("on the sixth day", CHECK.house.changed(1, 0), TODAY + 5);
        CHECK.due("steps of changes", CHECK.house.count(12), 10000);
    }

    private static void faults() {
        CHECK.furnished(2);
        CHECK.law("tax is pay / n; kids is n of parent;");
        CHECK.facts("person 1 parent is 2;");
        // a FAULT in a question that reckons TERMS has the innermost TERM, with its PERSON and DAY
        CHECK.due("of another", CHECK.ask("(tax of parent) on 1999-05-05"), -17);
        failure(7, Check.TAX, 2, Check.day(1999, 5, 5), 27, 1);
        CHECK.due("behind a term", CHECK.ask("kids / 0"), -17);
        failure(7, NONE, NONE, NONE, NONE, 0);
        CHECK.due("refused text", CHECK.ask("kids /"), NONE);
        failure(7, NONE, NONE, NONE, NONE, 0);
    }

    private static void change(int i, long day, long fault, long first, long second) {
        long[] want = {day, fault, first, second};
        for (int what = 0; what < 4; what++) {
            CHECK.due("change " + i + " what " + what, CHECK.house.changed(i, what), want[what]);
        }
        CHECK.due("change " + i + " what 4", CHECK.house.changed(i, 4), NONE);
    }

    private static void changes() {
        CHECK.furnished(1);
        CHECK.law("share is n / n;");
        CHECK.facts("person 1 n is 3 from 2000-01-05 until 2000-01-09; person 1 n is 4 from 2000-01-06 until 2000-01-06;");
        CHECK.due("no term", CHECK.house.changes(0, Check.N, 1, 0, 0, 0), NONE);
        CHECK.due("no law", CHECK.house.changes(4, Check.SHARE, 1, 0, 0, 0), RANGE);
        CHECK.due("no person", CHECK.house.changes(0, Check.SHARE, 2, 0, 0, 0), RANGE);
        CHECK.due("no from", CHECK.house.changes(0, Check.SHARE, 1, -1, 0, 0), RANGE);
        CHECK.due("no to", CHECK.house.changes(0, Check.SHARE, 1, 65535, 65536, 0), RANGE);
        CHECK.due("no known", CHECK.house.changes(0, Check.SHARE, 1, 0, 0, 65536), RANGE);
        CHECK.due("back", CHECK.house.changes(0, Check.SHARE, 1, 1, 0, 0), RANGE);
        CHECK.due("too long", CHECK.house.changes(0, Check.SHARE, 1, 0, 400, 0), RANGE);
        CHECK.due("none yet", CHECK.house.changed(0, 0), NONE);
        CHECK.due("changes", CHECK.house.changes(0, Check.SHARE, 1, TODAY, TODAY + 399, LAST), 3);
        change(0, TODAY, 7, 0, 0);
        change(1, TODAY + 4, 0, 1, 1);
        change(2, TODAY + 9, 7, 0, 0);
        CHECK.due("no change", CHECK.house.changed(3, 0), NONE);
        CHECK.due("no change below", CHECK.house.changed(-1, 0), NONE);
        CHECK.due("refused", CHECK.house.changes(0, Check.SHARE, 1, 0, 400, 0), RANGE);
        CHECK.due("those before stay", CHECK.house.changed(2, 0), TODAY + 9);
        CHECK.due("one day", CHECK.house.changes(0, Check.SHARE, 1, TODAY, TODAY, TODAY - 1), 1);
        change(0, TODAY, 0, 1, 5);
        CHECK.due("no reasons", CHECK.house.count(13), 0);
    }

    private static void solve() {
        CHECK.furnished(1);
        CHECK.law("yes is pay * 2 >= 33.33; tax is 1.00;");
        long most = 1000000000000L;
        CHECK.due("no term", CHECK.house.solve(0, Check.TAX, 1, TODAY, Check.PAY, 0, 1), NONE);
        CHECK.due("no person", CHECK.house.solve(0, Check.YES, 2, TODAY, Check.PAY, 0, 1), NONE);
        CHECK.due("no fact", CHECK.house.solve(0, Check.YES, 1, TODAY, Check.YES, 0, 1), NONE);
        CHECK.due("no fact of counts", CHECK.house.solve(0, Check.YES, 1, TODAY, Check.PART, 0, 1), NONE);
        CHECK.due("no law", CHECK.house.solve(4, Check.YES, 1, TODAY, Check.PAY, 0, 1), RANGE);
        CHECK.due("no day", CHECK.house.solve(0, Check.YES, 1, 65536, Check.PAY, 0, 1), RANGE);
        CHECK.due("no low", CHECK.house.solve(0, Check.YES, 1, TODAY, Check.PAY, -most - 1, 1), RANGE);
        CHECK.due("no high", CHECK.house.solve(0, Check.YES, 1, TODAY, Check.N, 0, 2147483648L), RANGE);
        CHECK.due("low above high", CHECK.house.solve(0, Check.YES, 1, TODAY, Check.PAY, 2, 1), RANGE);
        for (int i = 0; i < 8; i++) {
            CHECK.house.suppose(i / 7, i % 7, 1, 1);
        }
        CHECK.due("eight suppositions", CHECK.house.count(4), 8);
        CHECK.due("solved", CHECK.house.solve(0, Check.YES, 1, TODAY, Check.PAY, -most / 3, most / 3), 1);
        CHECK.due("least pay", CHECK.house.solved(), 1667);
        CHECK.due("still eight", CHECK.house.count(4), 8);
        CHECK.value("pay", 2, 0, 0);
        CHECK.due("not solved", CHECK.house.solve(0, Check.YES, 1, TODAY, Check.PAY, 0, 1666), 0);
        CHECK.due("the last low", CHECK.house.solved(), 1666);
        CHECK.due("one alone", CHECK.house.solve(0, Check.YES, 1, TODAY, Check.PAY, 1700, 1700), 1);
        CHECK.due("it is low", CHECK.house.solved(), 1700);
        CHECK.due("a fault", CHECK.house.solve(0, Check.YES, 1, TODAY, Check.PAY, most - 1, most), -18);
        CHECK.due("solved stays", CHECK.house.solved(), 1700);
        CHECK.due("downwards", CHECK.house.solve(0, Check.YES, 1, TODAY, Check.PAY, -3, -2), 0);
        CHECK.due("to the high one", CHECK.house.solved(), -2);
    }
}
