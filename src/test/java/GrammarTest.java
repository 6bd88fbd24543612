import java.util.ArrayList;
import java.util.List;
import java.util.Set;

/**
 * Exs made by a fixed rule, most of them right, some with a TOKEN too many, too few or another one, held against a second
 * reader of the grammar (by descent, as the document writes it): the FAULT's KIND and PLACE, or the ex as it is written.
 */
public final class GrammarTest {
    private static final int TRUTH = 0;
    private static final int COUNT = 1;
    private static final int MONEY = 2;
    private static final int RATE = 3;
    private static final int DATE = 4;
    private static final int SPAN = 5;
    private static final int REAL = 6;
    private static final int PERSON = 7;
    private static final int SYNTAX = 1;
    private static final int NAME = 2;
    private static final int RANGE = 3;
    private static final int ROOM = 4;
    private static final int KIND = 5;
    private static final int HEIGHT = 6;
    private static final String[] FACTS = {"flag", "n", "pay", "part", "birth", "gone", "odd", "parent", "mate"};
    private static final int[] OF_FACTS = {TRUTH, COUNT, MONEY, RATE, DATE, SPAN, REAL, PERSON, PERSON};
    private static final String[] TERMS = {"yes", "kids", "tax", "share", "when_due", "notice", "index", "head"};
    /** The words quoted in I and II, the KINDS, modes, FUNCTIONS and SETS. */
    private static final Set<String> RESERVED = Set.of(("easter plus minus first last of monday tuesday wednesday thursday friday"
            + " saturday sunday fact term else joins table rate money truth count date span real person up down near even days"
            + " months years true false article from amend strike put add except is when void or and not rem on day self state"
            + " together level slices between over has withdrawn until if fullyears fullmonths daysto least most yearof monthof"
            + " dayof weekday working due size root cents whole sum any all greatest smallest").split(" "));
    private static final Check CHECK = new Check();
    private static long state = 20261116;

    public static void main(String[] args) {
        CHECK.furnished(1);
        int right = 0;
        for (int i = 0; i < 12000; i++) {
            List<String> tokens = new ArrayList<>();
            int kind = next(8);
            make(tokens, kind, next(7));
            for (int change = next(3) == 0 ? 1 + next(2) : 0; change > 0; change--) {
                spoil(tokens);
            }
            right += hold(tokens);
        }
        CHECK.due("many are right", right > 4000 ? 1 : 0, 1);
        CHECK.due("many are not", right < 10000 ? 1 : 0, 1);
        CHECK.end("GrammarTest");
    }

    private static int next(int below) {
        state = state * 6364136223846793005L + 1442695040888963407L;
        return (int) ((state >>> 33) % below);
    }

    /** The TOKENS as a text with blanks here and there: asked, and enacted and written. */
    private static int hold(List<String> tokens) {
        StringBuilder text = new StringBuilder();
        int[] places = new int[tokens.size() + 1];
        for (int i = 0; i < tokens.size(); i++) {
            text.append(i == 0 ? "" : next(9) == 0 ? "\n ' what\n" : " ");
            places[i] = text.length();
            text.append(tokens.get(i));
        }
        places[tokens.size()] = text.length();
        if (text.length() > 3900 || tokens.size() > 1100) {
            return 0;
        }
        Descent descent = new Descent(tokens, places);
        Part part = descent.question();
        int answer = CHECK.ask(text.toString());
        CHECK.due(text + " kind", CHECK.house.fault(0), descent.fault);
        CHECK.due(text + " place", CHECK.house.fault(1), descent.fault == 0 ? -1 : descent.place);
        if (part == null) {
            CHECK.due(text.toString(), answer, -1);
            return 0;
        }
        CHECK.due(text.toString(), answer == part.kind || answer < -10 ? 1 : 0, 1);
        return written(text.toString(), part);
    }

    /** In a draft of a new house now and then, as there is no end to VERSIONS otherwise. */
    private static int written(String text, Part part) {
        if (CHECK.house.count(11) >= 190 || CHECK.house.count(15) > 7000) {
            CHECK.furnished(1);
        }
        int before = CHECK.house.count(15);
        CHECK.due(text, CHECK.enact(3, "article 1 {" + TERMS[part.kind] + " is " + text + "; }"), 1);
        CHECK.due("parts of " + text, CHECK.house.count(15) - before, part.parts);
        String want = "article 1 {\n" + TERMS[part.kind] + " is " + part.written + ";\n}\n";
        int size = CHECK.house.write(3, Check.TODAY, Check.TODAY);
        CHECK.due("length of " + text, size, want.length() > 12000 ? -4 : want.length());
        if (size >= 0) {
            CHECK.text(text, CHECK.out(size), want);
        }
        return 1;
    }

    private static void spoil(List<String> tokens) {
        String[] others = {"(", ")", ",", "+", "-", "not", "of", "on", "=", "<=", "and", "or", "rem", "5", "1.00", "%", "days", "n", "tax",
            "none", "fees", "self", "10001", "2001-02-29", "if", "sum", "has", "level", "together", ";", "$", "when", "day", "size"};
        int at = next(tokens.size());
        switch (next(3)) {
            case 0:
                tokens.remove(at);
                if (tokens.isEmpty()) {
                    tokens.add("1");
                }
                break;
            case 1:
                tokens.add(at, others[next(others.length)]);
                break;
            default:
                tokens.set(at, others[next(others.length)]);
                break;
        }
    }

    private static void add(List<String> tokens, String... more) {
        for (String token : more) {
            tokens.add(token);
        }
    }

    /** An ex of a KIND; brackets stand around it now and then, so that signs bind as they like otherwise. */
    private static void make(List<String> tokens, int kind, int depth) {
        boolean closed = next(4) > 0;
        if (closed) {
            add(tokens, "(");
        }
        if (depth <= 0 || next(8) == 0) {
            leaf(tokens, kind);
        } else if (next(4) == 0) {
            around(tokens, kind, depth - 1);
        } else {
            operation(tokens, kind, depth - 1);
        }
        if (closed) {
            add(tokens, ")");
        }
    }

    private static void leaf(List<String> tokens, int kind) {
        if (next(3) == 0) {
            add(tokens, TERMS[kind]);
        } else if (next(2) == 0 || kind == REAL) {
            add(tokens, FACTS[kind]);
        } else if (kind == TRUTH) {
            add(tokens, next(2) == 0 ? "true" : "false");
        } else if (kind == COUNT) {
            add(tokens, String.valueOf(next(20000)));
        } else if (kind == MONEY) {
            add(tokens, next(20000) + ".0" + next(10));
        } else if (kind == RATE) {
            add(tokens, String.valueOf(next(10050)), "%");
        } else if (kind == DATE) {
            add(tokens, next(3) == 0 ? "day" : "20" + (10 + next(70)) + "-0" + next(10) + "-2" + next(10));
        } else if (kind == SPAN) {
            String[] units = {"days", "months", "years"};
            int unit = next(3);
            add(tokens, String.valueOf(next(unit == 0 ? 66000 : unit == 1 ? 2410 : 202)), units[unit]);
        } else {
            add(tokens, next(2) == 0 ? "self" : "state");
        }
    }

    /** What any KIND may have around it. */
    private static void around(List<String> tokens, int kind, int depth) {
        switch (next(3)) {
            case 0:
                make(tokens, kind, depth);
                add(tokens, "of");
                make(tokens, PERSON, depth);
                break;
            case 1:
                make(tokens, kind, depth);
                add(tokens, "on");
                make(tokens, DATE, depth);
                break;
            default:
                add(tokens, "if", "(");
                make(tokens, TRUTH, depth);
                add(tokens, ",");
                make(tokens, kind, depth);
                add(tokens, ",");
                make(tokens, kind, depth);
                add(tokens, ")");
                break;
        }
    }

    private static void two(List<String> tokens, int left, String sign, int right, int depth) {
        make(tokens, left, depth);
        add(tokens, sign);
        make(tokens, right, depth);
    }

    private static void call(List<String> tokens, String word, int depth, int... kinds) {
        add(tokens, word, "(");
        for (int i = 0; i < kinds.length; i++) {
            if (i > 0) {
                add(tokens, ",");
            }
            make(tokens, kinds[i], depth);
        }
        add(tokens, ")");
    }

    private static void set(List<String> tokens, String word, int kind, int depth) {
        String[] members = {"parent", "mate", "together"};
        add(tokens, word, "(");
        make(tokens, kind, depth);
        add(tokens, ",", members[next(3)], ")");
    }

    private static void operation(List<String> tokens, int kind, int depth) {
        String[] sums = {"+", "-"};
        switch (kind) {
            case TRUTH:
                truth(tokens, depth);
                break;
            case COUNT:
                count(tokens, depth);
                break;
            case MONEY:
                money(tokens, depth);
                break;
            case RATE:
                rate(tokens, depth);
                break;
            case DATE:
                String[] words = {"first", "last", "due"};
                if (next(2) == 0) {
                    two(tokens, DATE, sums[next(2)], SPAN, depth);
                } else if (next(2) == 0) {
                    call(tokens, words[next(3)], depth, DATE);
                } else {
                    call(tokens, "date", depth, COUNT, COUNT, COUNT);
                }
                break;
            case SPAN:
                if (next(2) == 0) {
                    two(tokens, SPAN, sums[next(2)], SPAN, depth);
                } else if (next(2) == 0) {
                    two(tokens, DATE, "-", DATE, depth);
                } else {
                    boolean spanFirst = next(2) == 0;
                    two(tokens, spanFirst ? SPAN : COUNT, "*", spanFirst ? COUNT : SPAN, depth);
                }
                break;
            case REAL:
                String[] signs = {"+", "-", "*", "/", "rem"};
                if (next(2) == 0) {
                    two(tokens, REAL, signs[next(5)], REAL, depth);
                } else {
                    call(tokens, next(2) == 0 ? "root" : "size", depth, REAL);
                }
                break;
            default:
                add(tokens, "self", "of");
                make(tokens, PERSON, depth);
                break;
        }
    }

    private static void truth(List<String> tokens, int depth) {
        String[] signs = {"=", "#", "<", "<=", ">", ">="};
        int[] ordered = {COUNT, MONEY, RATE, DATE, REAL};
        switch (next(6)) {
            case 0:
                two(tokens, TRUTH, next(2) == 0 ? "or" : "and", TRUTH, depth);
                break;
            case 1:
                add(tokens, "not");
                make(tokens, TRUTH, depth);
                break;
            case 2:
                int kind = ordered[next(5)];
                two(tokens, kind, signs[next(6)], kind, depth);
                break;
            case 3:
                int same = next(8);
                two(tokens, same, signs[next(2)], same, depth);
                break;
            case 4:
                add(tokens, "has", "(", FACTS[next(9)], ")");
                break;
            default:
                set(tokens, next(2) == 0 ? "any" : "all", TRUTH, depth);
                break;
        }
    }

    private static void count(List<String> tokens, int depth) {
        String[] signs = {"+", "-", "*", "rem"};
        String[] ofDates = {"fullyears", "fullmonths", "daysto"};
        String[] ofDate = {"yearof", "monthof", "dayof", "weekday"};
        String[] sets = {"sum", "greatest", "smallest"};
        switch (next(7)) {
            case 0:
                two(tokens, COUNT, signs[next(4)], COUNT, depth);
                break;
            case 1:
                add(tokens, "-");
                make(tokens, COUNT, depth);
                break;
            case 2:
                call(tokens, ofDates[next(3)], depth, DATE, DATE);
                break;
            case 3:
                call(tokens, ofDate[next(4)], depth, DATE);
                break;
            case 4:
                set(tokens, sets[next(3)], COUNT, depth);
                break;
            case 5:
                call(tokens, "over", depth, COUNT, DATE, DATE);
                break;
            default:
                call(tokens, "whole", depth, next(2) == 0 ? RATE : REAL);
                break;
        }
    }

    private static void money(List<String> tokens, int depth) {
        String[] modes = {"up", "down", "near", "even", "least", "most"};
        String[] readings = {"level", "fees", "between", "fees", "slices", "slope"};
        switch (next(6)) {
            case 0:
                two(tokens, MONEY, next(2) == 0 ? "+" : "-", MONEY, depth);
                break;
            case 1:
                two(tokens, MONEY, next(2) == 0 ? "*" : "/", next(2) == 0 ? COUNT : RATE, depth);
                break;
            case 2:
                two(tokens, next(2) == 0 ? COUNT : RATE, "*", MONEY, depth);
                break;
            case 3:
                call(tokens, modes[next(6)], depth, MONEY, MONEY);
                break;
            case 4:
                call(tokens, "cents", depth, REAL);
                break;
            default:
                int at = 2 * next(3);
                add(tokens, readings[at], "(", readings[at + 1], ",");
                make(tokens, MONEY, depth);
                add(tokens, ")");
                break;
        }
    }

    private static void rate(List<String> tokens, int depth) {
        String[] signs = {"+", "-", "*", "/"};
        switch (next(4)) {
            case 0:
                two(tokens, RATE, signs[next(4)], next(2) == 0 ? RATE : COUNT, depth);
                break;
            case 1:
                two(tokens, MONEY, "/", MONEY, depth);
                break;
            case 2:
                two(tokens, COUNT, "/", COUNT, depth);
                break;
            default:
                add(tokens, "level", "(", "slope", ",");
                make(tokens, MONEY, depth);
                add(tokens, ")");
                break;
        }
    }

    /** A PART as the second reader has it. */
    static final class Part {
        final int kind;
        final int height;
        final int parts;
        final String written;

        Part(int kind, int height, int parts, String written) {
            this.kind = kind;
            this.height = height;
            this.parts = parts;
            this.written = written;
        }
    }

    /** Ends the reading of a text. */
    static final class Stop extends RuntimeException {
        private static final long serialVersionUID = 1L;
    }

    /** The grammar by descent; the FAULT stands in fault and place. */
    static class Descent {
        private final List<String> tokens;
        private final int[] places;
        int at;
        private int open;
        int fault;
        int place;

        Descent(List<String> tokens, int[] places) {
            this.tokens = tokens;
            this.places = places;
        }

        Part question() {
            try {
                Part part = ex();
                if (at < tokens.size()) {
                    stop(SYNTAX, places[at]);
                }
                return part;
            } catch (Stop end) {
                return null;
            }
        }

        /** Where the TOKEN that is here begins. */
        int placeHere() {
            return places[at];
        }

        void stop(int kind, int where) {
            fault = kind;
            place = where;
            throw new Stop();
        }

        String here() {
            return at < tokens.size() ? tokens.get(at) : "";
        }

        boolean isHere(String... words) {
            boolean found = false;
            for (String word : words) {
                found |= here().equals(word);
            }
            return found;
        }

        void expect(String word) {
            if (!here().equals(word)) {
                stop(SYNTAX, places[at]);
            }
            at++;
        }

        /** What opens stands here; it must be no 41st. */
        private void opens(String word) {
            if (!here().equals(word)) {
                stop(SYNTAX, places[at]);
            }
            open++;
            if (open > 40) {
                stop(ROOM, places[at]);
            }
            at++;
        }

        private Part part(int where, int kind, String written, Part... under) {
            int height = 1;
            int parts = 1;
            for (Part one : under) {
                height = Math.max(height, one.height + 1);
                parts += one.parts;
            }
            if (kind < 0) {
                stop(KIND, where);
            }
            if (height > 16) {
                stop(HEIGHT, where);
            }
            return new Part(kind, height, parts, written);
        }

        private Part two(Part left, String sign, int where, Part right) {
            String written = "(" + left.written + " " + sign + " " + right.written + ")";
            return part(where, KindsTest.ofSign(sign, left.kind, right.kind), written, left, right);
        }

        Part ex() {
            Part left = both();
            while (isHere("or")) {
                int where = places[at++];
                left = two(left, "or", where, both());
            }
            return left;
        }

        private Part both() {
            Part left = bare();
            while (isHere("and")) {
                int where = places[at++];
                left = two(left, "and", where, bare());
            }
            return left;
        }

        private Part bare() {
            if (!isHere("not")) {
                return cond();
            }
            int where = places[at];
            opens("not");
            Part under = bare();
            open--;
            return part(where, KindsTest.ofOne("not", under.kind), "(not " + under.written + ")", under);
        }

        private Part cond() {
            Part left = sum();
            if (isHere("=", "#", "<", "<=", ">", ">=")) {
                String sign = here();
                int where = places[at++];
                left = two(left, sign, where, sum());
            }
            return left;
        }

        private Part sum() {
            Part left = prod();
            while (isHere("+", "-")) {
                String sign = here();
                int where = places[at++];
                left = two(left, sign, where, prod());
            }
            return left;
        }

        private Part prod() {
            Part left = unit();
            while (isHere("*", "/", "rem")) {
                String sign = here();
                int where = places[at++];
                left = two(left, sign, where, unit());
            }
            return left;
        }

        private Part unit() {
            if (!isHere("-")) {
                return shift();
            }
            int where = places[at];
            opens("-");
            Part under = unit();
            open--;
            return part(where, KindsTest.ofOne("-", under.kind), "(- " + under.written + ")", under);
        }

        private Part shift() {
            Part left = post();
            if (isHere("on")) {
                int where = places[at];
                opens("on");
                Part right = post();
                open--;
                left = two(left, "on", where, right);
            }
            return left;
        }

        private Part post() {
            Part left = one();
            if (isHere("of")) {
                int where = places[at];
                opens("of");
                Part right = post();
                open--;
                left = two(left, "of", where, right);
            }
            return left;
        }

        private Part one() {
            String word = here();
            int where = places[at];
            if (word.matches("\\d+")) {
                return number(Integer.parseInt(word), where);
            }
            if (word.matches("\\d+\\.\\d\\d")) {
                at++;
                return part(where, MONEY, word.replaceFirst("^0+(?=\\d)", ""));
            }
            if (word.matches("\\d{4}-\\d\\d-\\d\\d")) {
                if (!isDate(word)) {
                    stop(RANGE, where);
                }
                at++;
                return part(where, DATE, word);
            }
            if (isHere("true", "false", "day", "self", "state")) {
                at++;
                return part(where, word.equals("day") ? DATE : word.startsWith("s") ? PERSON : TRUTH, word);
            }
            if (word.equals("(")) {
                opens("(");
                Part under = ex();
                expect(")");
                open--;
                return under;
            }
            return named(word, where);
        }

        static boolean isDate(String word) {
            try {
                java.time.LocalDate date = java.time.LocalDate.parse(word);
                return date.getYear() >= 1900 && !date.isAfter(java.time.LocalDate.of(2079, 6, 6));
            } catch (java.time.DateTimeException none) {
                return false;
            }
        }

        private Part number(int number, int where) {
            at++;
            String unit = here();
            int most = isHere("%") ? 10000 : isHere("days") ? 65535 : isHere("months") ? 2400 : isHere("years") ? 200 : -1;
            if (most < 0) {
                return part(where, COUNT, String.valueOf(number));
            }
            if (number > most) {
                stop(RANGE, where);
            }
            at++;
            if (unit.equals("%")) {
                return part(where, RATE, number + "%");
            }
            int months = unit.equals("years") ? 12 * number : number;
            return part(where, SPAN, unit.equals("days") || months == 0 ? (months == 0 ? 0 : number) + " days" : months + " months");
        }

        /** NAMES, functions, SETS and their like. */
        private Part named(String word, int where) {
            switch (word) {
                case "if": case "date": case "over":
                    return function(word, where, 3);
                case "least": case "most": case "up": case "down": case "near": case "even": case "fullyears": case "fullmonths":
                case "daysto":
                    return function(word, where, 2);
                case "first": case "last": case "due": case "yearof": case "monthof": case "dayof": case "weekday": case "working":
                case "size": case "real": case "root": case "cents": case "whole":
                    return function(word, where, 1);
                case "sum": case "count": case "any": case "all": case "greatest": case "smallest":
                    return set(word, where);
                case "level": case "slices": case "between":
                    return reading(word, where);
                case "has":
                    at++;
                    opens("(");
                    String fact = here();
                    name(indexOf(FACTS, fact) >= 0);
                    expect(")");
                    open--;
                    return part(where, TRUTH, "has(" + fact + ")");
                default:
                    int kind = indexOf(FACTS, word) >= 0 ? OF_FACTS[indexOf(FACTS, word)]
                            : word.equals("whole_tax") ? MONEY : indexOf(TERMS, word);
                    name(kind >= 0);
                    return part(where, kind, word);
            }
        }

        private static int indexOf(String[] words, String word) {
            for (int i = 0; i < words.length; i++) {
                if (words[i].equals(word)) {
                    return i;
                }
            }
            return -1;
        }

        static boolean isName(String word) {
            return word.matches("[a-z][a-z0-9_]{0,11}") && !RESERVED.contains(word);
        }

        /** A NAME must stand here; if it is a WORD at all, it may still not be one of those that are wanted. */
        void name(boolean fine) {
            if (!isName(here())) {
                stop(SYNTAX, places[at]);
            }
            if (!fine) {
                stop(NAME, places[at]);
            }
            at++;
        }

        private Part function(String word, int where, int many) {
            at++;
            opens("(");
            Part[] under = new Part[many];
            StringBuilder written = new StringBuilder(word).append("(");
            for (int i = 0; i < many; i++) {
                if (i > 0) {
                    expect(",");
                }
                under[i] = ex();
                written.append(i > 0 ? ", " : "").append(under[i].written);
            }
            expect(")");
            open--;
            int kind;
            if (many == 3) {
                boolean dates = under[1].kind == DATE && under[2].kind == DATE;
                boolean counts = under[0].kind == COUNT && under[1].kind == COUNT && under[2].kind == COUNT;
                boolean alike = under[0].kind == TRUTH && under[1].kind == under[2].kind;
                boolean summed = under[0].kind == COUNT || under[0].kind == MONEY || under[0].kind == RATE || under[0].kind == REAL;
                kind = word.equals("if") ? (alike ? under[1].kind : -1) : word.equals("date") ? (counts ? DATE : -1)
                        : dates && summed ? under[0].kind : -1;
            } else {
                kind = many == 2 ? KindsTest.ofTwo(word, under[0].kind, under[1].kind) : KindsTest.ofOne(word, under[0].kind);
            }
            return part(where, kind, written.append(")").toString(), under);
        }

        private Part set(String word, int where) {
            at++;
            opens("(");
            Part under = ex();
            expect(",");
            String members = here();
            if (isHere("together")) {
                at++;
            } else {
                name(isHere("parent", "mate"));
            }
            expect(")");
            open--;
            boolean summed = under.kind == COUNT || under.kind == MONEY || under.kind == RATE || under.kind == REAL;
            int kind;
            switch (word) {
                case "sum":
                    kind = summed ? under.kind : -1;
                    break;
                case "count":
                    kind = under.kind == TRUTH ? COUNT : -1;
                    break;
                case "any": case "all":
                    kind = under.kind == TRUTH ? TRUTH : -1;
                    break;
                default:
                    kind = summed || under.kind == DATE ? under.kind : -1;
                    break;
            }
            return part(where, kind, word + "(" + under.written + ", " + members + ")", under);
        }

        private Part reading(String word, int where) {
            at++;
            opens("(");
            String table = here();
            name(isHere("fees", "slope"));
            expect(",");
            Part under = ex();
            expect(")");
            open--;
            int of = table.equals("fees") ? MONEY : RATE;
            boolean fine = under.kind == MONEY && (word.equals("level") || of == (word.equals("slices") ? RATE : MONEY));
            int kind = word.equals("level") ? of : MONEY;
            return part(where, fine ? kind : -1, word + "(" + table + ", " + under.written + ")", under);
        }
    }
}
