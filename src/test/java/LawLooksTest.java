/** Promises 47 to 55: what courts annul, gaps, rings, laws written out and compared. */
public final class LawLooksTest {
    private static final int NONE = -1;
    private static final int RANGE = -2;
    private static final int FULL = -4;
    private static final int TODAY = Check.TODAY;
    private static final Check CHECK = new Check();

    public static void main(String[] args) {
        annul();
        annulments();
        gaps();
        gapsOfMany();
        rings();
        written();
        writtenParts();
        writtenAgain();
        tooLong();
        differ();
        counts();
        CHECK.end("LawLooksTest");
    }

    private static void tax(int law, int day, int known, long want) {
        int kind = CHECK.house.reckon(law, Check.TAX, 1, day, known);
        CHECK.due("tax by " + law + " on " + day + " known " + known, kind == 2 ? CHECK.house.value(0) : kind, want);
    }

    private static void annul() {
        CHECK.furnished(1);
        CHECK.law("tax is 1.00; except 1/1: tax is 2.00; table fees { 0.00: 1.00; }");
        CHECK.due("fork", CHECK.house.fork(1), 1);
        CHECK.due("no day", CHECK.house.annul(27, 2, 65536), RANGE);
        CHECK.due("no day below", CHECK.house.annul(27, 2, -1), RANGE);
        CHECK.due("no article", CHECK.house.annul(28, 2, TODAY), NONE);
        CHECK.due("no number", CHECK.house.annul(27, 4, TODAY), NONE);
        CHECK.due("no number 0", CHECK.house.annul(27, 0, TODAY), NONE);
        CHECK.due("not yet in force", CHECK.house.annul(27, 2, Check.day(1989, 12, 31)), NONE);
        CHECK.due("pass", CHECK.house.pass(TODAY + 2), 0);
        tax(0, TODAY, TODAY + 2, 200);
        CHECK.due("annul", CHECK.house.annul(27, 2, TODAY + 1), 1);
        tax(0, TODAY, TODAY + 2, 200);
        tax(0, TODAY + 1, TODAY + 2, 100);
        tax(0, TODAY + 1, TODAY + 1, 200);
        // in all LAWS and VERSIONS
        tax(1, TODAY + 1, TODAY + 2, 100);
        CHECK.due("amend", CHECK.enact(0, "amend 1 { add yes is true; }"), 1);
        tax(0, TODAY + 2, TODAY + 2, 100);
        CHECK.due("not again", CHECK.house.annul(27, 2, TODAY + 1), NONE);
        CHECK.due("but from a day ahead", CHECK.house.annul(27, 2, TODAY), 2);
        CHECK.due("how many", CHECK.house.count(16), 2);
        CHECK.due("a table", CHECK.ask("level(fees, 0.00)", 1, TODAY + 3), 2);
        CHECK.due("is annulled", CHECK.house.annul(27, 3, TODAY + 3), 3);
        CHECK.due("and gone", CHECK.ask("level(fees, 0.00)", 1, TODAY + 3), -11);
        int size = CHECK.house.write(0, TODAY + 3, TODAY + 2);
        CHECK.text("written void", CHECK.out(size), "article 1 {\ntax is 1.00;\nvoid;\nvoid;\nyes is true;\n}\n");
    }

    private static void annulments() {
        CHECK.furnished(1);
        CHECK.law("tax is 1.00;".repeat(40));
        CHECK.due("one more", CHECK.enact(0, "article 2 { void; yes is true; }"), 1);
        for (int i = 1; i <= 40; i++) {
            CHECK.due("annul", CHECK.house.annul(27, i, TODAY), i);
        }
        CHECK.due("a void one", CHECK.house.annul(54, 1, TODAY), NONE);
        CHECK.due("a 41st", CHECK.house.annul(54, 2, TODAY), FULL);
        tax(0, TODAY, TODAY, -11);
    }

    private static void gap(int... want) {
        for (int what = 0; what < 5; what++) {
            CHECK.due("gap " + what, CHECK.house.gap(what), want[what]);
        }
        CHECK.due("gap 5", CHECK.house.gap(5), NONE);
        CHECK.due("gap -1", CHECK.house.gap(-1), NONE);
    }

    private static void gaps() {
        CHECK.furnished(1);
        CHECK.law("tax is 1.00 when n > 5 and flag; tax is 2.00 when not (n > 05); tax is 3.00 when flag or n = 7;"
                + "kids is 1; share is 1% when true; yes is true; except 1/6: yes is false when flag;"
                + "except 1/6: yes is true when n = 1; except 9/9: yes is true when n = 2; notice is 1 days when flag;"
                + "notice is 2 days when not flag; notice is 3 days when flag and flag;"
                + "when_due is day when 1 years = gone; when_due is day when 12 months = gone;");
        CHECK.due("no term", CHECK.house.gaps(0, Check.N, TODAY), NONE);
        CHECK.due("no law", CHECK.house.gaps(4, Check.TAX, TODAY), RANGE);
        CHECK.due("no day", CHECK.house.gaps(0, Check.TAX, 65536), RANGE);
        gap(NONE, NONE, NONE, NONE, NONE);
        // ATOMS: n > 5, flag, n = 7; ways 001: none; 011, 110, 100 .. by hand:
        // 000 second alone; 001 none; 010 second and third; 011 first and third; 100 second and third;
        // 101 third alone; 110 second and third; 111 first and third
        CHECK.due("tax", CHECK.house.gaps(0, Check.TAX, TODAY), 6);
        gap(3, 1, 5, 1, 2);
        CHECK.due("always", CHECK.house.gaps(0, Check.KIDS, TODAY), 0);
        gap(0, 0, 0, NONE, NONE);
        CHECK.due("a constant is an atom", CHECK.house.gaps(0, Check.SHARE, TODAY), 1);
        gap(1, 1, 0, 0, NONE);
        // three ATOMS, also that of a RULE which excepts what is not in force
        CHECK.due("exceptions", CHECK.house.gaps(0, Check.YES, TODAY), 2);
        gap(3, 0, 2, NONE, 3);
        CHECK.due("conflict", CHECK.house.gaps(0, Check.NOTICE, TODAY), 1);
        gap(1, 0, 1, NONE, 1);
        CHECK.due("written alike", CHECK.house.gaps(0, Check.WHEN_DUE, TODAY), 2);
        gap(1, 1, 1, 0, 1);
        CHECK.due("nothing in force", CHECK.house.gaps(0, Check.TAX, 0), 1);
        gap(0, 1, 0, 0, NONE);
        CHECK.due("refused", CHECK.house.gaps(4, Check.TAX, TODAY), RANGE);
        gap(0, 1, 0, 0, NONE);
    }

    private static void gapsOfMany() {
        CHECK.furnished(1);
        StringBuilder eight = new StringBuilder("yes is true when n = 0");
        for (int i = 1; i < 8; i++) {
            eight.append(" or n = ").append(i);
        }
        CHECK.law(eight + "; kids is 0; except 1/2: kids is 1; except 1/3: kids is 2; except 1/4: kids is 3;"
                + "except 1/5: kids is 4; except 1/6: kids is 5; except 1/7: kids is 6;");
        CHECK.due("eight atoms", CHECK.house.gaps(0, Check.YES, TODAY), 1);
        gap(8, 1, 0, 0, NONE);
        CHECK.due("six exceptions", CHECK.house.gaps(0, Check.KIDS, TODAY), 0);
        CHECK.due("more", CHECK.enact(0, "amend 1 { add except 1/8: kids is 7; add yes is true when n = 8; }"), 1);
        CHECK.due("nine atoms", CHECK.house.gaps(0, Check.YES, TODAY), FULL);
        CHECK.due("seven exceptions", CHECK.house.gaps(0, Check.KIDS, TODAY), FULL);
        gap(0, 0, 0, NONE, NONE);
        CHECK.due("a second article", CHECK.enact(0, "article 2 {" + "tax is 1.00;".repeat(40) + "}"), 1);
        CHECK.due("forty rules", CHECK.house.gaps(0, Check.TAX, TODAY), 1);
        CHECK.due("a third", CHECK.enact(0, "article 3 { tax is 1.00; }"), 1);
        CHECK.due("forty-one", CHECK.house.gaps(0, Check.TAX, TODAY), FULL);
    }

    private static void rings() {
        CHECK.furnished(1);
        CHECK.due("no law", CHECK.house.ring(4, TODAY), RANGE);
        CHECK.due("no day", CHECK.house.ring(0, -1), RANGE);
        CHECK.due("nothing", CHECK.house.ring(0, TODAY), NONE);
        CHECK.law("kids is kids of parent + kids on (day - 1 days) + sum(kids, together) + over(kids, day, day);"
                + "tax is 1.00 * kids;");
        CHECK.due("for others and on other days", CHECK.house.ring(0, TODAY), NONE);
        String[] rings = {"tax is tax;", "tax is 1.00 when tax = 1.00;", "tax is 1.00 * over(1, when_due, day);"
                + "when_due is day when tax = 1.00;", "head is self of head;", "tax is 1.00 on when_due; when_due is day when tax = 1.00;",
            "tax is 1.00; except 5/5: tax is tax;"};
        int[] first = {Check.TAX, Check.TAX, Check.TAX, Check.HEAD, Check.TAX, Check.TAX};
        for (int i = 0; i < rings.length; i++) {
            CHECK.due("article", CHECK.enact(0, "article 2 {" + rings[i] + "}"), 1);
            CHECK.due(rings[i], CHECK.house.ring(0, TODAY), first[i]);
            CHECK.due("not the day ahead", CHECK.house.ring(0, TODAY - 1), NONE);
        }
        CHECK.due("three", CHECK.enact(0, "article 2 { index is real(1) when share = 1%; share is 1% when notice = 1 days;"
                + " notice is 1 days when index = real(1); yes is index = real(0); }"), 1);
        CHECK.due("the first in it", CHECK.house.ring(0, TODAY), Check.SHARE);
    }

    private static void writes(int law, int day, int known, String want) {
        CHECK.due("write", CHECK.house.write(law, day, known), want.length());
        CHECK.text("write", CHECK.out(want.length()), want);
    }

    private static void written() {
        CHECK.furnished(1);
        CHECK.due("no law", CHECK.house.write(4, 0, 0), RANGE);
        CHECK.due("no day", CHECK.house.write(0, -1, 0), RANGE);
        CHECK.due("no known", CHECK.house.write(0, 0, 65536), RANGE);
        writes(0, TODAY, TODAY, "");
        CHECK.due("law", CHECK.enact(0, "article 12 b { void; } article 12 from 1999-01-01 { except 12 b / 007 : tax is"
                + " 01.00 when n=1; table slope{0.00:10%;100.00:007%;} table fees { 5.00: 6.00; } } article 2 {}"
                + " article 12 a from 1999-06-01 { yes is true; }"), 4);
        writes(0, TODAY, TODAY, "article 12 {\nexcept 12b/7: tax is 1.00 when (n = 1);\ntable slope { 0.00: 10%; 100.00: 7%; }\n"
                + "table fees { 5.00: 6.00; }\n}\narticle 12a {\nyes is true;\n}\narticle 12b {\nvoid;\n}\n");
        writes(0, Check.day(1999, 3, 1), TODAY, "article 12 {\nexcept 12b/7: tax is 1.00 when (n = 1);\n"
                + "table slope { 0.00: 10%; 100.00: 7%; }\ntable fees { 5.00: 6.00; }\n}\n");
        CHECK.due("out below", CHECK.house.out(-1), NONE);
        writes(0, TODAY, TODAY - 1, "");
        writes(1, TODAY, TODAY, "");
    }

    private static void writtenParts() {
        CHECK.furnished(1);
        String[][] parts = {
            {"1 + 2 * 3 - 4", "((1 + (2 * 3)) - 4)"},
            {"- - n", "(- (- n))"},
            {"(((007)))", "7"},
            {"n of self of state on day", "((n of (self of state)) on day)"},
            {"if(not true or false and n <= 1 or n >= 2, 1, 2)",
                "if((((not true) or (false and (n <= 1))) or (n >= 2)), 1, 2)"},
            {"sum(n, parent) + count(has(n), together)", "(sum(n, parent) + count(has(n), together))"},
            {"over(n rem 2, 2000-02-29, day + 1 years - 0 months)",
                "over((n rem 2), 2000-02-29, ((day + 12 months) - 0 days))"},
            {"whole(10000% / level(slope, 5.00))", "whole((10000% / level(slope, 5.00)))"},
            {"whole(slices(slope, 0.05) / between(fees, pay))", "whole((slices(slope, 0.05) / between(fees, pay)))"},
            {"weekday(due(day)) - daysto(date(2000, 1, 1), first(day))",
                "(weekday(due(day)) - daysto(date(2000, 1, 1), first(day)))"},
            {"if(n # 1 and n < 2 and n > 0, n, 3)", "if((((n # 1) and (n < 2)) and (n > 0)), n, 3)"},
        };
        StringBuilder law = new StringBuilder();
        StringBuilder want = new StringBuilder("article 1 {\n");
        for (String[] part : parts) {
            law.append("kids is ").append(part[0]).append(";");
            want.append("kids is ").append(part[1]).append(";\n");
        }
        CHECK.law(law.toString());
        writes(0, TODAY, TODAY, want + "}\n");
    }

    /** What is written is a text that is written likewise when it is enacted again. */
    private static void writtenAgain() {
        int size = CHECK.house.write(0, TODAY, TODAY);
        String text = CHECK.out(size);
        CHECK.due("again", CHECK.enact(1, text), 1);
        writes(1, TODAY, TODAY, text);
        CHECK.due("no difference", CHECK.house.differ(0, TODAY, TODAY, 1, TODAY, TODAY), 0);
    }

    /** OUT has 12000 bytes at most; with more it stays. */
    private static void tooLong() {
        CHECK.furnished(1);
        String rule = "kids is n + n + n + n + n + n + n + n + n + n;";
        for (int i = 1; i <= 4; i++) {
            CHECK.due("law", CHECK.enact(0, "article " + i + " {" + rule.repeat(40) + "}"), 1);
        }
        CHECK.due("four articles", CHECK.house.write(0, TODAY, TODAY), 4 * (14 + 40 * 65));
        String last = "article 5 {" + rule.repeat(23) + " kids is n + n; kids is ";
        CHECK.due("more", CHECK.enact(0, last + "12345678; }"), 1);
        CHECK.due("just not too long", CHECK.house.write(0, TODAY, TODAY), 12000);
        CHECK.due("the last byte", CHECK.house.out(11999), '\n');
        CHECK.due("one more", CHECK.enact(0, last + "123456789; }"), 1);
        CHECK.due("too long", CHECK.house.write(0, TODAY, TODAY), FULL);
        CHECK.due("out stays", CHECK.house.out(11999), '\n');
        reasonsTooLong();
    }

    private static void reasonsTooLong() {
        CHECK.furnished(29);
        for (int person = 1; person < 30; person++) {
            CHECK.house.fact(person, Check.MATE, 0, 0, 0, 65535);
        }
        for (int person = 0; person < 30; person++) {
            CHECK.house.fact(person, Check.ODD, Check.bits(1.0), 0, 0, 65535);
        }
        CHECK.due("eight of each", CHECK.ask("sum(odd" + " + odd".repeat(7) + ", together)"), 6);
        CHECK.due("lines", CHECK.house.count(13), 240);
        int size = 8 * (10 * 46 + 20 * 47);
        CHECK.due("told", CHECK.house.tell(), size);
        CHECK.due("its last byte", CHECK.house.out(size - 1), '\n');
        CHECK.due("ten of each", CHECK.ask("sum(odd" + " + odd".repeat(9) + ", together)"), 6);
        CHECK.due("lines", CHECK.house.count(13), 300);
        CHECK.due("too long", CHECK.house.tell(), FULL);
        CHECK.due("out stays", CHECK.house.out(size - 1), '\n');
        CHECK.due("no more", CHECK.house.out(size), NONE);
    }

    private static void differ() {
        CHECK.furnished(1);
        CHECK.due("no law", CHECK.house.differ(4, 0, 0, 0, 0, 0), RANGE);
        CHECK.due("no day", CHECK.house.differ(0, -1, 0, 0, 0, 0), RANGE);
        CHECK.due("no known", CHECK.house.differ(0, 0, -1, 0, 0, 0), RANGE);
        CHECK.due("no other law", CHECK.house.differ(0, 0, 0, -1, 0, 0), RANGE);
        CHECK.due("no other day", CHECK.house.differ(0, 0, 0, 0, 65536, 0), RANGE);
        CHECK.due("no other known", CHECK.house.differ(0, 0, 0, 0, 0, 65536), RANGE);
        CHECK.due("law", CHECK.enact(0, "article 1 { tax is 1.00; } article 2 a { void; } article 3 {}"
                + "article 4 { notice is 12 months; table fees { 1.00: 1.00; } } article 5 { yes is n = 1; }"
                + "article 6 { tax is 1.00; tax is 2.00; }"), 6);
        CHECK.due("draft", CHECK.enact(1, "article 1 { tax is (01.00); } article 2 a { yes is true; }"
                + "article 4 { notice is 1 years; table fees { 1.00: 1.01; } } article 5 { yes is n = 1; void; }"
                + "article 6 { tax is 1.00; tax is 2.00; } article 7 { void; }"), 6);
        CHECK.due("differ", CHECK.house.differ(0, TODAY, TODAY, 1, TODAY, TODAY), 4);
        int[] want = {55, 108, 135, 189};
        for (int i = 0; i < 4; i++) {
            CHECK.due("differs " + i, CHECK.house.differs(i), want[i]);
        }
        CHECK.due("differs 4", CHECK.house.differs(4), NONE);
        CHECK.due("differs -1", CHECK.house.differs(-1), NONE);
        CHECK.due("annul", CHECK.house.annul(27 * 6, 2, TODAY + 1), 1);
        CHECK.due("with itself a day later", CHECK.house.differ(0, TODAY, TODAY, 0, TODAY + 1, TODAY), 1);
        CHECK.due("article 6", CHECK.house.differs(0), 162);
        CHECK.due("with itself a day ahead", CHECK.house.differ(0, TODAY, TODAY, 0, TODAY - 1, TODAY), 5);
        CHECK.due("refused", CHECK.house.differ(0, TODAY, TODAY, 4, TODAY, TODAY), RANGE);
        CHECK.due("stays", CHECK.house.differs(4), 162);
    }

    private static void counts() {
        CHECK.furnished(3);
        CHECK.law("tax is 1.00; table fees { 1.00: 1.00; 2.00: 2.00; } void;");
        CHECK.house.fork(2);
        CHECK.enact(2, "article 5 {}");
        CHECK.holidays("1 1; 2 1;");
        CHECK.facts("person 1 n is 1;");
        CHECK.house.suppose(1, Check.N, 1, 0);
        CHECK.house.decide(1, Check.TAX, TODAY, 2);
        CHECK.house.annul(27, 2, TODAY);
        CHECK.house.pass(TODAY + 3);
        CHECK.house.reckon(0, Check.TAX, 1, TODAY, TODAY);
        CHECK.feed("abc");
        int[] want = {TODAY + 3, 20, 4, 1, 1, 1, 2, 2, 1, 0, 2, 0, 2, 2, 3, 1, 1, 2, 2};
        for (int what = 0; what < want.length; what++) {
            CHECK.due("count " + what, CHECK.house.count(what), want[what]);
        }
        CHECK.due("count 19", CHECK.house.count(19), NONE);
    }
}
