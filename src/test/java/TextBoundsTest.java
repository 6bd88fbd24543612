/**
 * The bounds that "Terms" II names: of TOKENS, NAMES, articles, RULES, rows, PARTS, what is open, of numbers in texts;
 * for each the last that is taken and the first that is refused, and that a text which is refused changes nothing. In
 * texts that are refused @ stands ahead of the FAULT's PLACE; it is not fed.
 */
public final class TextBoundsTest {
    private static final int SYNTAX = 1;
    private static final int NAME = 2;
    private static final int RANGE = 3;
    private static final int ROOM = 4;
    private static final int KIND = 5;
    private static final int HEIGHT = 6;
    private static final int LACK = 7;
    private static final int TODAY = Check.TODAY;
    private static final int LAST = Check.LAST;
    private static final String[] RESERVED = ("easter plus minus first last of monday tuesday wednesday thursday friday saturday"
            + " sunday fact term else joins table rate money truth count date span real person up down near even days months"
            + " years true false article from amend strike put add except is when void or and not rem on day self state level"
            + " slices between over together has withdrawn until if fullyears fullmonths daysto least most yearof monthof dayof"
            + " weekday working due size root cents whole sum any all greatest smallest").split(" ");
    private static final Check CHECK = new Check();

    public static void main(String[] args) {
        words();
        reservedWords();
        numbers();
        moneys();
        dates();
        blanks();
        signs();
        tokensOfFacts();
        tokensOfQuestions();
        everyTokenOfLaws();
        everyTokenOfFacts();
        everyTokenOfQuestions();
        bytes();
        names();
        modes();
        constants();
        addresses();
        articles();
        versions();
        rulesOfArticles();
        rulesEver();
        rows();
        rowsEver();
        amendments();
        open();
        heights();
        parts();
        facts();
        emptyTexts();
        CHECK.end("TextBoundsTest");
    }

    private static String plain(String marked) {
        return marked.replace("@", "");
    }

    private static void fault(String marked, int answer, int kind) {
        CHECK.due(marked, answer, -1);
        CHECK.due(marked + " kind", CHECK.house.fault(0), kind);
        CHECK.due(marked + " place", CHECK.house.fault(1), marked.indexOf('@'));
        CHECK.due(marked + " tape", CHECK.house.count(14), 0);
    }

    /** Refused, and nothing else than the FAULT and THE TAPE is another one then. */
    private static void refused(String text, String marked, int kind) {
        java.util.List<String> before = Seen.behindText(CHECK.house);
        CHECK.feed(plain(marked));
        int answer = text.equals("names") ? CHECK.house.names() : text.equals("law") ? CHECK.house.enact(0)
                : text.equals("facts") ? CHECK.house.facts() : CHECK.house.ask(0, 1, TODAY, LAST);
        fault(marked, answer, kind);
        CHECK.text(marked + " changes something", Seen.difference(before, Seen.behindText(CHECK.house)), "");
    }

    private static void fine(String text) {
        CHECK.due(text, CHECK.ask(text) == -1 ? 1 : 0, 0);
        CHECK.due(text + " fault", CHECK.house.fault(0), 0);
        CHECK.due(text + " place", CHECK.house.fault(1), -1);
    }

    private static void words() {
        CHECK.fresh();
        CHECK.due("one letter", CHECK.names("fact a: count;"), 1);
        CHECK.due("its length", CHECK.house.name(0, 3), 1);
        CHECK.due("twelve", CHECK.names("fact abcdefghijkl: count;"), 1);
        CHECK.due("their length", CHECK.house.name(1, 3), 12);
        CHECK.due("the last", CHECK.house.name(1, 21), 'l');
        CHECK.due("behind the last", CHECK.house.name(1, 22), -1);
        refused("names", "fact @abcdefghijklm: count;", SYNTAX);
        refused("names", "fact @abcdefghijkl_: count;", SYNTAX);
        refused("names", "fact @abcdefghijkl0: count;", SYNTAX);
        CHECK.due("all bytes that may be", CHECK.names("fact z_09az: count;"), 1);
        refused("names", "fact @_a: count;", SYNTAX);
        refused("names", "fact @A: count;", SYNTAX);
        refused("names", "fact @0a: count;", SYNTAX);
        refused("names", "fact b@A: count;", SYNTAX);
        refused("names", "fact b@-c: count;", SYNTAX);
        refused("names", "fact b@\u00e4: count;", SYNTAX);
        CHECK.due("as many as there are", CHECK.names("fact nots: count; fact of1: count; fact if_: count;"), 3);
        CHECK.due("alike up to the last", CHECK.names("fact abcdefghijkm: count;"), 1);
        CHECK.due("a beginning", CHECK.names("fact abcdefghijk: count;"), 1);
    }

    private static void reservedWords() {
        CHECK.fresh();
        for (String word : RESERVED) {
            refused("names", "fact @" + word + ": count;", SYNTAX);
        }
        StringBuilder others = new StringBuilder();
        String[] free = {"facts", "terms", "joint", "elses", "ask", "law", "none", "article1", "amends", "sums", "floor",
            "round", "abs", "min", "max", "year", "month", "mondays", "rates", "then", "than", "to", "by", "for"};
        for (String word : free) {
            others.append("fact ").append(word).append(": count;");
        }
        CHECK.due("others are not", CHECK.names(others.toString()), free.length);
    }

    private static void numbers() {
        CHECK.furnished(1);
        CHECK.value("0", 1, 0, 0);
        CHECK.value("999999999", 1, 999999999, 0);
        CHECK.value("000000001", 1, 1, 0);
        CHECK.value("000000000", 1, 0, 0);
        refused("ask", "@1000000000", SYNTAX);
        refused("ask", "@0000000001", SYNTAX);
        refused("ask", "1 + @0000000000", SYNTAX);
        CHECK.value("12days", 5, 0, 12);
        CHECK.value("0 %", 3, 0, 1);
        CHECK.value("10000%", 3, 100, 1);
        refused("ask", "@10001%", RANGE);
        refused("ask", "@999999999 %", RANGE);
        CHECK.value("0 days", 5, 0, 0);
        CHECK.value("65535 days", 5, 0, 65535);
        refused("ask", "@65536 days", RANGE);
        CHECK.value("0 months", 5, 0, 0);
        CHECK.value("2400 months", 5, 2400, 0);
        refused("ask", "@2401 months", RANGE);
        CHECK.value("0 years", 5, 0, 0);
        CHECK.value("200 years", 5, 2400, 0);
        refused("ask", "@201 years", RANGE);
        refused("ask", "@999999999 years", RANGE);
        refused("ask", "1 @day", SYNTAX);
        refused("ask", "1.00 @days", SYNTAX);
        refused("ask", "1 days @days", SYNTAX);
    }

    private static void moneys() {
        CHECK.furnished(1);
        CHECK.value("0.00", 2, 0, 0);
        CHECK.value("0.01", 2, 1, 0);
        CHECK.value("999999999.99", 2, 99999999999L, 0);
        CHECK.value("000000001.00", 2, 100, 0);
        refused("ask", "@1000000000.00", SYNTAX);
        refused("ask", "1@.", SYNTAX);
        refused("ask", "1@.0", SYNTAX);
        refused("ask", "1@.0 0", SYNTAX);
        refused("ask", "1 @.00", SYNTAX);
        refused("ask", "1@. 00", SYNTAX);
        refused("ask", "@.00", SYNTAX);
        refused("ask", "1.00@0", SYNTAX);
        refused("ask", "1.00@.00", SYNTAX);
    }

    private static void dates() {
        CHECK.furnished(1);
        CHECK.value("2000-01-01", 4, TODAY, 0);
        // what is no DATE by its form is three NUMBERS
        CHECK.value("200-01-01", 1, 198, 0);
        CHECK.value("20000-01-01", 1, 19998, 0);
        CHECK.value("2000-1-01", 1, 1998, 0);
        CHECK.value("2000-01-1", 1, 1998, 0);
        CHECK.value("2000 -01-01", 1, 1998, 0);
        CHECK.value("2000- 01-01", 1, 1998, 0);
        CHECK.value("2000-01 -01", 1, 1998, 0);
        CHECK.value("2000-001-01", 1, 1998, 0);
        CHECK.value("2000- 1-01", 1, 1998, 0);
        CHECK.value("2000-1 -01", 1, 1998, 0);
        CHECK.value("2000-01- 1", 1, 1998, 0);
        CHECK.value("2000-01-1 ", 1, 1998, 0);
        CHECK.value("2000+01-01", 1, 2000, 0);
        CHECK.value("2000-01+01", 1, 2000, 0);
        CHECK.value("2000-01", 1, 1999, 0);
        refused("ask", "2000-01-@", SYNTAX);
        refused("ask", "2000-01-01@1", SYNTAX);
        refused("ask", "2000-01-01@.00", SYNTAX);
        CHECK.value("2000-01-02-2000-01-01", 5, 0, 1);
        refused("ask", "@2000-99-99", RANGE);
        refused("ask", "2000-01-01 @2000-01-01", SYNTAX);
    }

    private static void blanks() {
        CHECK.furnished(1);
        CHECK.value(" \n 1 \n+\n2 ", 1, 3, 0);
        CHECK.value("1+2", 1, 3, 0);
        CHECK.value("1' + 5\n+ 2' + 7", 1, 3, 0);
        CHECK.value("'\n'\n''1\n1'", 1, 1, 0);
        for (int c = 0; c < 256; c++) {
            boolean blank = c == 32 || c == 10 || c == '\'';
            if (blank || c == '=' || c == '@') {
                continue;
            }
            boolean digit = c >= '0' && c <= '9';
            if (!digit && c != '%') {
                // of an operator the end is missed, of all else it is itself what is wrong
                boolean operator = "+-*/#<>".indexOf(c) >= 0;
                refused("ask", operator ? "1" + (char) c + "@" : "1@" + (char) c, SYNTAX);
            }
        }
    }

    private static void signs() {
        CHECK.furnished(1);
        CHECK.value("1<=1", 0, 1, 0);
        CHECK.value("1>=1", 0, 1, 0);
        CHECK.value("1<1", 0, 0, 0);
        CHECK.value("1>1", 0, 0, 0);
        refused("ask", "1< @=1", SYNTAX);
        refused("ask", "1<@>1", SYNTAX);
        refused("ask", "1=@<1", SYNTAX);
        refused("ask", "1<=@=1", SYNTAX);
        CHECK.value("1<-1", 0, 0, 0);
        CHECK.value("--1", 1, 1, 0);
    }

    /** 200 RECORDS of 6 TOKENS are 1200. */
    private static void tokensOfFacts() {
        CHECK.furnished(29);
        StringBuilder text = new StringBuilder();
        for (int i = 0; i < 200; i++) {
            text.append("person ").append(i % 30).append(i / 30 % 2 == 0 ? " n is 1;" : " pay is 1.00;");
        }
        refused("facts", text + "@person 1 n is 1;", ROOM);
        refused("facts", text + "@people", SYNTAX);
        CHECK.due("1200 tokens", CHECK.facts(text.toString()), 200);
        CHECK.due("all came", CHECK.house.count(3), 200);
    }

    /** A balanced ex of a power of two of 1s, in brackets: 4 times as many TOKENS, less 3. */
    private static String ones(int many) {
        return many == 1 ? "1" : "(" + ones(many / 2) + "+" + ones(many / 2) + ")";
    }

    private static void tokensOfQuestions() {
        CHECK.furnished(1);
        // 1021 and 125, 29, 13, 5 TOKENS with a sign ahead of each, and two more 1s: 1199
        String most = ones(256) + "+" + ones(32) + "+" + ones(8) + "+" + ones(4) + "+" + ones(2) + "+1";
        CHECK.value(most, 1, 303, 0);
        CHECK.value(most + "%", 3, 30201, 100);
        refused("ask", most + "%@+1", ROOM);
        refused("ask", most + "%@)", SYNTAX);
        refused("ask", most + "+@1", ROOM);
        refused("ask", most + "+@nothing", NAME);
        refused("ask", most + "+@1899-01-01", RANGE);
    }

    /** Where the TOKENS of a text begin. */
    private static java.util.List<Integer> places(String text) {
        java.util.List<Integer> found = new java.util.ArrayList<>();
        java.util.regex.Matcher tokens = java.util.regex.Pattern
                .compile("\\d{4}-\\d\\d-\\d\\d|\\d+\\.\\d\\d|\\d+|[a-z][a-z0-9_]*|<=|>=|[^ \n]").matcher(text);
        while (tokens.find()) {
            found.add(tokens.start());
        }
        return found;
    }

    /** A text in which each TOKEN behind the 1200th is refused as the 1201st, at its place. */
    private static void refusedAt1201(String text, String ahead, String end) {
        String whole = ahead + end;
        java.util.List<Integer> places = places(whole);
        CHECK.due("more than 1200 in " + end, places.size() > 1200 ? 1 : 0, 1);
        if (places.size() > 1200) {
            int place = places.get(1200);
            refused(text, whole.substring(0, place) + "@" + whole.substring(place), ROOM);
        }
    }

    private static void everyTokenOfLaws() {
        CHECK.furnished(1);
        String voids = "{" + "void;".repeat(40) + "}";
        String[] ends = {
            "table fees { 1.00: 2.00; 3.00: 4.00; } }",
            "table slope { 1.00: 5 %; 2.00: 0%; } }",
            "except 1 a/2: kids is 1 + n when true and has(n); }",
            "kids is if(true, n, - kids of parent on day); }",
            "kids is count(not true, together) + 2; void; }",
            "tax is level(fees, 1.00) * 50 % + over(1.00, day, day); }",
            "yes is any(n >= 1, parent) or 2 days = 1 months; }",
            "void; } article 3 b from 2000-01-01 { void; } article 4 { }",
            "void; } amend 2 { strike 1; put 2: void; add kids is 1; }",
            "void; } amend 2 from 2000-01-05 { put 1: tax is 1.00; strike 1; }",
        };
        for (String end : ends) {
            int tokens = places(end).size();
            for (int j = 1; j <= tokens; j++) {
                // TOKENS ahead: 84 of each full article, one more with a letter, then those of an article that goes on
                int ahead = 1201 - j;
                int full = (ahead - 3) / 84;
                int rest = (ahead - 3) % 84;
                if (rest > 60) {
                    // an article without RULES has 4
                    rest -= 24;
                }
                StringBuilder many = new StringBuilder();
                for (int i = 0; i < full; i++) {
                    many.append("article 1").append(i == 0 && rest % 2 == 1 ? " a" : "").append(voids);
                }
                if ((ahead - 3) % 84 > 60) {
                    many.append("article 9{}".repeat(6));
                }
                refusedAt1201("law", many + "article 2{" + "void;".repeat(rest / 2), end);
            }
        }
    }

    private static void everyTokenOfFacts() {
        CHECK.furnished(29);
        String end = "person 1 gone is - 5 days from 2000-01-01 until 2000-01-02; person 1 mate withdrawn until 2000-01-02;"
                + "person 1 part is 50 %; person 1 parent is 2 from 2000-01-01; person 1 flag is true;";
        int tokens = places(end).size();
        for (int j = 1; j <= tokens; j++) {
            int ahead = 1201 - j;
            // RECORDS of 6 TOKENS, and some of 5
            int five = ahead % 6 == 0 ? 0 : 6 - ahead % 6;
            int six = (ahead - 5 * five) / 6;
            StringBuilder many = new StringBuilder();
            for (int i = 0; i < six + five; i++) {
                many.append("person ").append(i % 30).append(i % 60 < 30 ? " n " : " pay ");
                many.append(i < five ? "withdrawn;" : i % 60 < 30 ? "is 1;" : "is 1.00;");
            }
            refusedAt1201("facts", many.toString(), end);
        }
    }

    private static void everyTokenOfQuestions() {
        CHECK.furnished(1);
        String[] ends = {"if(true, n, 2)", "has", "- 2 * n", "n of parent of mate on 2000-01-01", "sum(n, together)", "count(has(n), parent)",
            "least(1, kids)", "weekday(first(day))", "over(n, day, day + 2 days)", "(1 + (2))", "fullmonths(day, 2000-01-01 + 5 months)",
            "whole(level(slope, 1.00) + 5 %)"};
        for (String end : ends) {
            int tokens = places(end).size();
            for (int j = 1; j <= tokens; j++) {
                refusedAt1201("ask", ahead(1201 - j), end);
            }
        }
    }

    /** A sum that goes on, of so many TOKENS: 4 P - 2 m of m terms that add up to P ones, one more with a sign ahead. */
    private static String ahead(int tokens) {
        int even = tokens / 2 * 2;
        int terms = even / 2 % 2 == 0 ? 10 : 9;
        int left = (even + 2 * terms) / 4;
        StringBuilder text = new StringBuilder(tokens % 2 == 1 ? "-" : "");
        java.util.List<Integer> powers = new java.util.ArrayList<>();
        for (int power = 256; power > 0; power /= 2) {
            if (left >= power) {
                powers.add(0, power);
                left -= power;
            }
        }
        while (powers.size() < terms) {
            int at = 0;
            while (powers.get(at) == 1) {
                at++;
            }
            int half = powers.get(at) / 2;
            powers.set(at, half);
            powers.add(0, half);
        }
        for (int power : powers) {
            text.append(ones(power)).append("+");
        }
        return text.toString();
    }

    private static void bytes() {
        CHECK.furnished(1);
        CHECK.value("1" + " ".repeat(3999), 1, 1, 0);
        CHECK.value(" ".repeat(3999) + "1", 1, 1, 0);
        CHECK.value("'" + "x".repeat(3996) + "\n12", 1, 12, 0);
        refused("ask", " ".repeat(4000) + "@", SYNTAX);
        refused("ask", "'" + " ".repeat(3999) + "@", SYNTAX);
        refused("ask", "1" + " ".repeat(3998) + "@1", SYNTAX);
    }

    private static void names() {
        CHECK.fresh();
        StringBuilder forty = new StringBuilder();
        for (int i = 0; i < 40; i++) {
            forty.append(i % 3 == 0 ? "fact" : i % 3 == 1 ? "term" : "table").append(" n").append(i).append(": money;");
        }
        refused("names", forty + "fact @more: count;", ROOM);
        refused("names", forty + "table @more: rate;", ROOM);
        refused("names", forty + "fact @n1: count;", NAME);
        CHECK.due("forty", CHECK.names(forty.toString()), 40);
        CHECK.due("how many", CHECK.house.count(1), 40);
        CHECK.due("the last", CHECK.house.name(39, 3), 3);
        CHECK.due("no more", CHECK.house.name(40, 0), -1);
        refused("names", "term @more: count;", ROOM);
        refused("names", "term @n39: count;", NAME);
        CHECK.due("none is fine", CHECK.names(" "), 0);
        leftovers();
    }

    /** What a refused text told of a NAME is not left for the one that comes in its place. */
    private static void leftovers() {
        CHECK.fresh();
        refused("names", "term abc: money even 500 else 5.00; fact def: person joins; table ghi: rate; fact @abc: count;", NAME);
        CHECK.due("none", CHECK.house.count(1), 0);
        CHECK.due("others", CHECK.names("term x: money; fact y: count; fact z: date;"), 3);
        CHECK.due("no mode", CHECK.house.name(0, 2), 0);
        CHECK.due("its length", CHECK.house.name(0, 3), 1);
        CHECK.due("its one letter", CHECK.house.name(0, 11), -1);
        CHECK.due("no fact that joins", CHECK.house.name(1, 0), 0);
        CHECK.due("a fact", CHECK.house.name(2, 0), 0);
        CHECK.due("a date", CHECK.house.name(2, 1), 4);
        CHECK.due("no else", CHECK.ask("x", 0, TODAY), -11);
        CHECK.due("law", CHECK.enact(0, "article 1 { x is 1.23; }"), 1);
        CHECK.due("is not rounded", CHECK.ask("x", 0, TODAY), 2);
        CHECK.due("at all", CHECK.house.value(0), 123);
    }

    private static void modes() {
        CHECK.furnished(1);
        refused("names", "term a: money up @0;", RANGE);
        refused("names", "term a: money down @000000000;", RANGE);
        refused("names", "term a: money near @1.00;", SYNTAX);
        refused("names", "term a: money even @- 1;", SYNTAX);
        refused("names", "term a: money up@;", SYNTAX);
        refused("names", "fact a: money @up 1;", KIND);
        refused("names", "term a: rate @down 1;", KIND);
        refused("names", "table a: money @up 1;", SYNTAX);
        CHECK.due("the least and the most", CHECK.names("term a: money up 1; term b: money even 999999999;"), 2);
        CHECK.law("a is 1.01; b is 4999999.99;");
        CHECK.value("a", 2, 101, 0);
        CHECK.value("b", 2, 0, 0);
        CHECK.due("more", CHECK.enact(0, "article 1 { b is 5000000.00; }"), 1);
        CHECK.value("b", 2, 999999999, 0);
    }

    private static void constants() {
        CHECK.furnished(1);
        CHECK.due("of all kinds", CHECK.names("fact c1: truth else true; fact c2: count else - 999999999; fact c3: money else"
                + " -999999999.99; fact c4: rate else - 10000 %; fact c5: date else 2079-06-06; fact c6: span else - 65535 days;"
                + " fact c7: span else 2400 months; fact c8: span else -200 years;"), 8);
        CHECK.value("c1", 0, 1, 0);
        CHECK.value("c2", 1, -999999999, 0);
        CHECK.value("c3", 2, -99999999999L, 0);
        CHECK.value("c4", 3, -100, 1);
        CHECK.value("c5", 4, LAST, 0);
        CHECK.value("c6", 5, 0, -65535);
        CHECK.value("c7", 5, 2400, 0);
        CHECK.value("c8", 5, -2400, 0);
        refused("names", "fact a: rate else @10001%;", RANGE);
        refused("names", "fact a: rate else -@10001%;", RANGE);
        refused("names", "fact a: span else -@65536 days;", RANGE);
        refused("names", "fact a: span else @2401 months;", RANGE);
        refused("names", "fact a: span else @201 years;", RANGE);
        refused("names", "fact a: date else @2079-06-07;", RANGE);
        refused("names", "fact a: date else @1899-12-31;", RANGE);
        refused("names", "fact a: date else -@2000-01-01;", SYNTAX);
        refused("names", "fact a: truth else -@true;", SYNTAX);
        refused("names", "fact a: count else - @- 1;", SYNTAX);
        refused("names", "fact a: real else @1;", KIND);
        refused("names", "fact a: real else @1.00;", KIND);
        refused("names", "fact a: person else @1;", KIND);
        refused("names", "fact a: person else @0;", KIND);
        refused("names", "fact a: span else @1;", KIND);
        refused("names", "fact a: money else @-1;", KIND);
    }

    private static void addresses() {
        CHECK.furnished(1);
        CHECK.due("least and most", CHECK.enact(0, "article 1 { void; } article 999 { void; } article 1a {} article 999 z { void; }"), 4);
        refused("law", "article @0 {}", RANGE);
        refused("law", "article @1000 {}", RANGE);
        refused("law", "article @999999999 a {}", RANGE);
        refused("law", "article 1 @aa {}", SYNTAX);
        refused("law", "article 1 a @b {}", SYNTAX);
        refused("law", "article 1 @a1 {}", SYNTAX);
        refused("law", "article 1 @1 {}", SYNTAX);
        refused("law", "article @a {}", SYNTAX);
        refused("law", "amend @0 {}", RANGE);
        refused("law", "amend @1000 {}", RANGE);
        CHECK.due("exceptions", CHECK.enact(1, "article 1 { except 1/1: tax is 1.00; except 999 z/99: tax is 1.00; }"), 1);
        refused("law", "article 1 { except @0/1: tax is 1.00; }", RANGE);
        refused("law", "article 1 { except @1000/1: tax is 1.00; }", RANGE);
        refused("law", "article 1 { except 1/@0: tax is 1.00; }", RANGE);
        refused("law", "article 1 { except 1/@100: tax is 1.00; }", RANGE);
        refused("law", "article 1 { except 1 @aa/1: tax is 1.00; }", SYNTAX);
        CHECK.due("days", CHECK.enact(1, "article 2 from 1900-01-01 {} article 2 from 2079-06-06 {}"), 2);
        refused("law", "article 2 from @1899-12-31 {}", RANGE);
        refused("law", "article 2 from @2079-06-07 {}", RANGE);
        refused("law", "article 2 from @2001-02-29 {}", RANGE);
    }

    private static void articles() {
        CHECK.furnished(1);
        refused("law", "@", SYNTAX);
        CHECK.due("one", CHECK.enact(0, "article 1{}"), 1);
        refused("law", "article 1{}".repeat(30) + "@article 1{}", ROOM);
        refused("law", "article 1{}".repeat(30) + "@amend 1{}", ROOM);
        CHECK.due("thirty", CHECK.enact(0, "article 1{}".repeat(29) + "amend 1{}"), 30);
    }

    private static void versions() {
        CHECK.furnished(1);
        for (int i = 0; i < 6; i++) {
            CHECK.due("thirty", CHECK.enact(i % 4, "article 1{}".repeat(30)), 30);
        }
        CHECK.due("nineteen", CHECK.enact(3, "article 1{}".repeat(19)), 19);
        refused("law", "article 1{} @article 1{}", ROOM);
        refused("law", "article 1{} @amend 1{}", ROOM);
        CHECK.due("the 200th", CHECK.enact(0, "article 2{}"), 1);
        refused("law", "@article 1{}", ROOM);
        refused("law", "@amend 1{}", ROOM);
        refused("law", "@articles 1{}", SYNTAX);
        CHECK.due("what is forked is no new one", CHECK.house.fork(1), 61);
        CHECK.due("of the drafts", CHECK.house.adopt(2), 30);
        refused("law", "@article 1{}", ROOM);
    }

    private static void rulesOfArticles() {
        CHECK.furnished(1);
        String forty = "article 1 {" + "void;".repeat(39) + "tax is 1.00;";
        refused("law", forty + "@void; }", ROOM);
        refused("law", forty + "@tax is 2.00; }", ROOM);
        refused("law", forty + "@table fees { 1.00: 1.00; } }", ROOM);
        refused("law", forty + "@except 1/1: tax is 1.00; }", ROOM);
        refused("law", forty + "@nothing is 1; }", NAME);
        refused("law", forty + "@add void; }", SYNTAX);
        CHECK.due("forty", CHECK.enact(0, forty + "}"), 1);
        refused("law", "amend 1 { @add void; }", ROOM);
        refused("law", "amend 1 { @add tax is 1.00; }", ROOM);
        refused("law", "amend 1 { strike 40; @add void; }", ROOM);
        CHECK.due("but others in their place", CHECK.enact(0, "amend 1 { strike 40; put 40: tax is 2.00; put 1: void; }"), 1);
        CHECK.due("none at all", CHECK.enact(0, "article 2 {} amend 2 {}"), 2);
    }

    private static void rulesEver() {
        CHECK.furnished(1);
        for (int i = 1; i <= 12; i++) {
            CHECK.due("forty", CHECK.enact(i % 3, "article 1 {" + "tax is 1.00;".repeat(40) + "}"), 1);
        }
        CHECK.due("nineteen", CHECK.enact(0, "article 1 {" + "tax is 1.00;".repeat(19) + "void; }"), 1);
        refused("law", "article 2 { table fees { 1.00: 1.00; } void; @tax is 1.00; }", ROOM);
        CHECK.due("the 500th", CHECK.enact(0, "amend 1 { put 20: tax is 1.00; }"), 1);
        CHECK.due("five hundred", CHECK.house.count(18), 500);
        refused("law", "article 2 { @tax is 1.00; }", ROOM);
        refused("law", "article 2 { @table fees { 1.00: 1.00; } }", ROOM);
        refused("law", "article 2 { @except 1/1: tax is 1.00; }", ROOM);
        refused("law", "amend 1 { put 1: @tax is 1.00; }", ROOM);
        refused("law", "amend 1 { add @tax is 1.00; }", ROOM);
        refused("law", "article 2 { @fees is 1.00; }", NAME);
        CHECK.due("void ones", CHECK.enact(0, "article 2 {" + "void;".repeat(40) + "} amend 2 { put 1: void; }"), 2);
    }

    private static String table(int rows) {
        StringBuilder text = new StringBuilder("table fees {");
        for (int i = 0; i < rows; i++) {
            text.append(i).append(".00: 9.00;");
        }
        return text.toString();
    }

    private static void rows() {
        CHECK.furnished(1);
        refused("law", "article 1 { table fees { @} }", SYNTAX);
        refused("law", "article 1 { " + table(20) + "@20.00: 1.00; } }", ROOM);
        refused("law", "article 1 { " + table(20) + "@19.00: 1.00; } }", RANGE);
        CHECK.due("one", CHECK.enact(0, "article 1 { " + table(1) + "} }"), 1);
        CHECK.due("twenty", CHECK.enact(0, "article 1 { " + table(20) + "} }"), 1);
        CHECK.due("rows", CHECK.house.count(17), 21);
        CHECK.due("the most", CHECK.enact(0, "article 1 { table fees { 0.00: 0.00; 9999999.99: 9999999.99; }"
                + " table slope { 0.01: 0%; 0.02: 10000%; } }"), 1);
        refused("law", "article 1 { table fees { @10000000.00: 1.00; } }", RANGE);
        refused("law", "article 1 { table fees { 1.00: @10000000.00; } }", RANGE);
        refused("law", "article 1 { table slope { 1.00: @10001%; } }", RANGE);
        refused("law", "article 1 { table slope { 1.00: 1%; @1.00: 1%; } }", RANGE);
        refused("law", "article 1 { table slope { 1.00: 1%; @0.99: 1%; } }", RANGE);
        refused("law", "article 1 { table slope { 1.00: 1%; @- 1.01: 1%; } }", SYNTAX);
        refused("law", "article 1 { table slope { 1.00: 1 @2.00: 1%; } }", SYNTAX);
        refused("law", "article 1 { table slope { 1.00: 1 @} }", SYNTAX);
        refused("law", "article 1 { table slope { 1.00: 1 @; } }", SYNTAX);
        refused("law", "article 1 { table slope { 1.00: @1.00; } }", KIND);
        refused("law", "article 1 { table fees { 1.00: @0%; } }", KIND);
    }

    private static void rowsEver() {
        CHECK.furnished(1);
        for (int i = 1; i <= 19; i++) {
            CHECK.due("twenty", CHECK.enact(i % 4, "article " + i + " { " + table(20) + "} }"), 1);
        }
        CHECK.due("nineteen", CHECK.enact(0, "article 1 { " + table(19) + "} }"), 1);
        refused("law", "article 2 { table slope { 1.00: 1%; } table slope { @1.00: 1%; } }", ROOM);
        CHECK.due("the 400th", CHECK.enact(0, "article 2 { table slope { 1.00: 1%; } }"), 1);
        CHECK.due("four hundred", CHECK.house.count(17), 400);
        refused("law", "article 2 { table slope { @1.00: 1%; } }", ROOM);
        refused("law", "article 2 { table slope { @10000000.00: 1%; } }", RANGE);
        CHECK.due("what is amended has its rows", CHECK.enact(0, "amend 2 { add void; }"), 1);
    }

    private static void amendments() {
        CHECK.furnished(1);
        CHECK.due("law", CHECK.enact(0, "article 1 from 2000-01-01 { tax is 1.00; void; tax is 2.00; } article 2 {}"), 2);
        refused("law", "amend @1 from 1999-12-31 {}", LACK);
        refused("law", "amend @1a {}", LACK);
        refused("law", "amend @3 {}", LACK);
        CHECK.due("from its day on", CHECK.enact(0, "amend 1 from 2000-01-01 {}"), 1);
        for (String word : new String[] {"strike", "put"}) {
            String end = word.equals("put") ? ": void;" : ";";
            refused("law", "amend 1 { " + word + " @0" + end + " }", RANGE);
            refused("law", "amend 1 { " + word + " @4" + end + " }", LACK);
            refused("law", "amend 1 { " + word + " @99" + end + " }", LACK);
            refused("law", "amend 1 { " + word + " @100" + end + " }", RANGE);
            refused("law", "amend 2 { " + word + " @1" + end + " }", LACK);
            CHECK.due("the first, a void one, the last", CHECK.enact(0, "amend 1 { " + word + " 1" + end + word + " 2" + end
                    + word + " 3" + end + "}"), 1);
        }
        CHECK.due("one that comes behind", CHECK.enact(0, "amend 2 { add void; strike 1; put 1: tax is 1.00; }"), 1);
        refused("law", "amend 2 { add void; strike @3; }", LACK);
        // that of the greatest FROM not behind, as known TODAY
        CHECK.due("later", CHECK.enact(0, "article 5 from 2000-01-03 { void; void; }"), 1);
        refused("law", "amend @5 {}", LACK);
        refused("law", "amend @5 from 2000-01-02 {}", LACK);
        CHECK.due("then", CHECK.enact(0, "amend 5 from 2000-01-03 { strike 2; }"), 1);
        CHECK.due("in a draft there is none", CHECK.enact(1, "amend 5 from 2000-01-03 {}"), -1);
        CHECK.due("none to amend", CHECK.house.fault(0), LACK);
    }

    /** ( of all sorts, not, - of a unit, of, on are open to their ends; the 41st is refused, at it. */
    private static void open() {
        CHECK.furnished(1);
        String[] kinds = {"(1)", "- 1", "size(1)", "sum(1, parent)", "level(fees, 1.00) / 1.00 = 1%", "over(1, day, day)",
            "1 of self", "1 on day", "has(n)", "not true", "count(true, together)", "if(true, 1, 2)"};
        String[] marks = {"@(1)", "@- 1", "size@(1)", "sum@(1, parent)", "level@(fees, 1.00) / 1.00 = 1%", "over@(1, day, day)",
            "1 @of self", "1 @on day", "has@(n)", "@not true", "count@(true, together)", "if@(true, 1, 2)"};
        for (int i = 0; i < kinds.length; i++) {
            fine("(".repeat(39) + kinds[i] + ")".repeat(39));
            refused("ask", "(".repeat(40) + marks[i] + ")".repeat(40), ROOM);
        }
        fine("(".repeat(40) + "1" + ")".repeat(40));
        refused("ask", "(".repeat(39) + "- @(1)" + ")".repeat(39), ROOM);
        fine("(".repeat(38) + "- (1)" + ")".repeat(38));
        fine("(".repeat(38) + "- 1 + - 1 * - 1" + ")".repeat(38));
        fine("(".repeat(38) + "(1) of self + (1) on day" + ")".repeat(38));
        // the right of "of" is still within it
        refused("ask", "(".repeat(38) + "1 of self of self @of self" + ")".repeat(38), ROOM);
        fine("(".repeat(38) + "1 of self of self" + ")".repeat(38));
        refused("ask", "(".repeat(39) + "1 on day @of self" + ")".repeat(39), ROOM);
        fine("(".repeat(39) + "1 of self + 1 of self" + ")".repeat(39));
        fine("(".repeat(39) + "not true and not true or not true" + ")".repeat(39));
        refused("ask", "(".repeat(39) + "not @not true" + ")".repeat(39), ROOM);
        // what is over is open no more: 64 of each sort, one behind the other
        for (String one : new String[] {"1 of self", "1 on day", "- 1", "size(1)", "(1)", "1 of self on day"}) {
            fine(leastOf(one, 64));
        }
        refused("law", "article 1 { kids is " + "(".repeat(40) + "@(1" + ")".repeat(41) + "; }", ROOM);
        refused("law", "article 1 { kids is 1 when " + "(".repeat(40) + "@(true" + ")".repeat(41) + "; }", ROOM);
    }

    private static String leastOf(String one, int many) {
        return many == 1 ? one : "least(" + leastOf(one, many / 2) + ", " + leastOf(one, many / 2) + ")";
    }

    private static void heights() {
        CHECK.furnished(1);
        fine("1" + " + 1".repeat(15));
        refused("ask", "1" + " + 1".repeat(15) + " @+ 1", HEIGHT);
        fine("- ".repeat(15) + "1");
        refused("ask", "@- " + "- ".repeat(15) + "1", HEIGHT);
        fine("not ".repeat(15) + "true");
        refused("ask", "@not " + "not ".repeat(15) + "true", HEIGHT);
        fine("self of ".repeat(15) + "self");
        refused("ask", "self @of " + "self of ".repeat(15) + "self", HEIGHT);
        fine("size(".repeat(15) + "1" + ")".repeat(15));
        refused("ask", "@size(" + "size(".repeat(15) + "1" + ")".repeat(16), HEIGHT);
        fine("sum(".repeat(15) + "1" + ", parent)".repeat(15));
        refused("ask", "@sum(" + "sum(".repeat(15) + "1" + ", parent)".repeat(16), HEIGHT);
        // TABLES, and FACTS of has and SETS, are no PARTS of their own
        fine("level(fees, ".repeat(15) + "1.00" + ")".repeat(15));
        refused("ask", "@level(fees, " + "level(fees, ".repeat(15) + "1.00" + ")".repeat(16), HEIGHT);
        fine("not ".repeat(15) + "has(n)");
        refused("ask", "@not " + "not ".repeat(15) + "has(n)", HEIGHT);
        fine("if(true, ".repeat(15) + "1" + ", 2)".repeat(15));
        refused("ask", "@if(true, " + "if(true, ".repeat(15) + "1" + ", 2)".repeat(16), HEIGHT);
        // the second and the third as the first
        String sixteen = "(1" + " + 1".repeat(15) + ")";
        String fifteen = "(1" + " + 1".repeat(14) + ")";
        fine("if(true, 1, " + fifteen + ")");
        refused("ask", "@if(true, 1, " + sixteen + ")", HEIGHT);
        refused("ask", "@if(true, " + sixteen + ", 1)", HEIGHT);
        fine("least(1, " + fifteen + ")");
        refused("ask", "@least(1, " + sixteen + ")", HEIGHT);
        refused("ask", "@date(1, " + sixteen + ", 1)", HEIGHT);
        refused("ask", "@date(1, 1, " + sixteen + ")", HEIGHT);
        String thirteen = "(1" + " + 1".repeat(12) + ")";
        fine("over(1, day, day + 1 days * " + thirteen + ")");
        refused("ask", "@over(1, day, day + 1 days * (1" + " + 1".repeat(13) + "))", HEIGHT);
        fine("(".repeat(40) + "1" + ")".repeat(40));
        refused("law", "article 1 { kids is 1" + " + 1".repeat(15) + " @+ 1; }", HEIGHT);
    }

    /** 8000 PARTS of all laws and the text; those of a question and of what is refused are gone behind it. */
    private static void parts() {
        CHECK.furnished(1);
        String sixteen = "(1" + " + 1".repeat(7) + ")";
        String rule = "kids is " + sixteen + " + 1 * " + sixteen + ";";
        // 15 + 1 + 1 + 1 + 15 PARTS each
        for (int i = 1; i <= 8; i++) {
            CHECK.due("some rules", CHECK.enact(i % 4, "article 1 {" + rule.repeat(29) + "}"), 1);
            CHECK.due("parts", CHECK.house.count(15), i * 29 * 33);
        }
        CHECK.due("ten more", CHECK.enact(0, "article 1 {" + rule.repeat(10) + "}"), 1);
        CHECK.due("so many", CHECK.house.count(15), 7986);
        CHECK.value("- (1" + " + 1".repeat(6) + ")", 1, -7, 0);
        CHECK.due("those of a question are gone", CHECK.house.count(15), 7986);
        refused("ask", "1" + " + 1".repeat(6) + " @+ 1", HEIGHT);
        refused("ask", "@- - (1" + " + 1".repeat(6) + ")", HEIGHT);
        refused("ask", "1" + " + 1".repeat(6) + " @+ true", KIND);
        refused("law", "article 1 { kids is 1" + " + 1".repeat(6) + "; kids is 1; kids is @1; }", HEIGHT);
        refused("law", "article 1 { kids is 1" + " + 1".repeat(6) + "; yes is true when @true; }", HEIGHT);
        CHECK.due("all", CHECK.enact(0, "article 1 { kids is 1" + " + 1".repeat(6) + "; kids is 1; }"), 1);
        CHECK.due("eight thousand", CHECK.house.count(15), 8000);
        refused("ask", "@1", HEIGHT);
        refused("ask", "(@day)", HEIGHT);
        refused("ask", "size(@n", HEIGHT);
        refused("ask", "@has(n)", HEIGHT);
        refused("law", "article 1 { kids is @1; }", HEIGHT);
        refused("law", "article 1 { kids is @none; }", NAME);
        CHECK.due("tables have none", CHECK.enact(0, "article 2 { table fees { 1.00: 1.00; } void; }"), 1);
    }

    private static void facts() {
        CHECK.furnished(2);
        CHECK.due("days", CHECK.facts("person 0 n is 1 from 1900-01-01 until 1900-01-01; person 2 n is 2 from 2079-06-06"
                + " until 2079-06-06; person 1 parent is 2; person 1 mate is 0;"), 4);
        refused("facts", "person @3 n is 1;", RANGE);
        refused("facts", "person @999999999 n is 1;", RANGE);
        refused("facts", "person @- 1 n is 1;", SYNTAX);
        refused("facts", "person 1 parent is @3;", RANGE);
        refused("facts", "person 1 parent is @999999999;", RANGE);
        refused("facts", "person 1 parent is @- 1;", KIND);
        refused("facts", "person 1 parent is @- 0;", KIND);
        refused("facts", "person 1 parent is @1 days;", KIND);
        refused("facts", "person 1 n is 1 from 2000-01-02 until @2000-01-01;", RANGE);
        refused("facts", "person 1 n is 1 from @2079-06-07;", RANGE);
        refused("facts", "person 1 n is 1 until @1899-12-31;", RANGE);
        refused("facts", "person 1 n withdrawn from 2000-01-02 until @2000-01-01;", RANGE);
        refused("facts", "person 1 odd is @1;", KIND);
        CHECK.due("withdrawn may be", CHECK.facts("person 1 odd withdrawn;"), 1);
        CHECK.due("sixteen", CHECK.facts("person 1 n is 1;".repeat(16)), 16);
        refused("facts", "@person 1 n is 1;", ROOM);
        refused("facts", "person 1 pay is 1.00;".repeat(16) + "@person 1 pay is 1.00;", ROOM);
        CHECK.due("those before are as they were", CHECK.facts("person 1 pay is 1.00;".repeat(16)), 16);
        CHECK.due("records", CHECK.house.count(3), 37);
    }

    private static void emptyTexts() {
        CHECK.furnished(1);
        CHECK.due("no names", CHECK.names(""), 0);
        CHECK.due("no facts", CHECK.facts(""), 0);
        CHECK.due("no holidays", CHECK.holidays(""), 0);
        refused("law", "@", SYNTAX);
        refused("ask", "@", SYNTAX);
        CHECK.due("blanks alone", CHECK.names(" \n'x"), 0);
        refused("law", " \n 'x\n @", SYNTAX);
    }
}
