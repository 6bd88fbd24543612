import java.util.ArrayList;
import java.util.List;

/** Makes exs, RULES and VERSIONS by a fixed rule, as texts and as what Model takes; the texts of exs are as write() has them. */
final class Maker {
    static final String[] NAMES = {"flag", "n", "pay", "part", "birth", "gone", "odd", "parent", "mate", "yes", "kids",
        "tax", "share", "when_due", "notice", "index", "head", "whole_tax", "slope", "fees"};
    static final int[] KINDS = {0, 1, 2, 3, 4, 5, 6, 7, 7, 0, 1, 2, 3, 4, 5, 6, 7, 2, 3, 2};
    static final int FACTS = 9;
    static final int TERMS = 18;
    static final int[] ARTICLES = {27, 28, 29, 54, 55};
    private static final int LAST = Check.LAST;
    private long state;
    int today = Check.TODAY;
    /** The RULES of the VERSION that was made last, also those that were put in place of one another. */
    final List<Model.Rule> made = new ArrayList<>();

    Maker(long state) {
        this.state = state;
    }

    int next(int below) {
        state = state * 6364136223846793005L + 1442695040888963407L;
        return (int) ((state >>> 33) % below);
    }

    boolean often() {
        return next(4) > 0;
    }

    boolean seldom() {
        return next(6) == 0;
    }

    int dayNear() {
        return seldom() ? next(LAST + 1) : today - 300 + next(500);
    }

    /** With the letter behind a blank, as it may be. */
    String address(int article) {
        return article / 27 + (article % 27 > 0 ? " " + (char) ('a' + article % 27 - 1) : "");
    }

    /** A VERSION that comes to a LAW, as a new article or by an amendment. */
    Model.Version version(List<Model.Version> law, StringBuilder text) {
        made.clear();
        Model.Version version = new Model.Version();
        version.article = ARTICLES[next(ARTICLES.length)];
        version.from = Math.max(0, today - 400 + next(600));
        version.told = today;
        Model.Version before = Model.inForce(law, version.from, today).get(version.article);
        boolean amends = before != null && next(2) == 0;
        text.append(amends ? "amend " : "article ").append(address(version.article)).append(" from ")
                .append(Model.dateOf(version.from)).append(" {\n");
        if (amends) {
            version.rules.addAll(before.rules);
        }
        for (int i = 1 + next(4); i > 0; i--) {
            if (amends && next(2) == 0 && !version.rules.isEmpty()) {
                int number = 1 + next(version.rules.size());
                boolean strikes = next(2) == 0;
                text.append(strikes ? "strike " : "put ").append(number).append(strikes ? ";" : ": ");
                version.rules.set(number - 1, strikes ? null : rule(text));
            } else {
                text.append(amends ? "add " : "");
                version.rules.add(rule(text));
            }
        }
        text.append("}");
        return version;
    }

    Model.Rule rule(StringBuilder text) {
        if (next(12) == 0) {
            text.append("void;");
            return null;
        }
        Model.Rule rule = new Model.Rule();
        made.add(rule);
        if (next(5) == 0) {
            table(rule, text);
            return rule;
        }
        rule.name = FACTS + next(TERMS - FACTS);
        if (next(3) == 0) {
            rule.article = ARTICLES[next(ARTICLES.length)];
            rule.number = 1 + next(4);
            text.append("except ").append(address(rule.article)).append(" / ").append(rule.number).append(": ");
        }
        rule.ex = part(KINDS[rule.name], 1 + next(3));
        text.append(NAMES[rule.name]).append(" is ").append(rule.ex.text);
        if (next(2) == 0) {
            rule.when = part(Model.TRUTH, 1 + next(2));
            text.append(" when ").append(rule.when.text);
        }
        text.append(";\n");
        return rule;
    }

    void table(Model.Rule rule, StringBuilder text) {
        rule.name = TERMS + next(2);
        rule.rows = new ArrayList<>();
        text.append("table ").append(NAMES[rule.name]).append(" {");
        long bound = next(3000);
        for (int i = 1 + next(4); i > 0; i--) {
            int value = next(rule.name == TERMS ? 60 : 90000);
            int shared = 1;
            for (int by = 2; by <= 100; by++) {
                shared = 100 % by == 0 && value % by == 0 ? by : shared;
            }
            rule.rows.add(rule.name == TERMS ? new long[] {bound, value / shared, 100 / shared} : new long[] {bound, value, 0});
            text.append(cents(bound)).append(": ").append(rule.name == TERMS ? value + "%" : cents(value)).append("; ");
            bound += 1 + next(200000);
        }
        text.append("}\n");
    }

    String cents(long cents) {
        return cents / 100 + "." + cents / 10 % 10 + cents % 10;
    }

    Model.Part leaf(String op, int kind, int name, String text) {
        Model.Part part = new Model.Part(op, kind);
        part.name = name;
        part.text = text;
        return part;
    }

    Model.Part constant(int kind) {
        Model.Part part = new Model.Part("constant", kind);
        int number = next(4) == 0 ? next(9999) : next(20);
        part.constant = new long[] {number, 0};
        switch (kind) {
            case Model.TRUTH:
                part.constant[0] = number % 2;
                part.text = number % 2 == 0 ? "false" : "true";
                return part;
            case Model.COUNT:
                part.text = String.valueOf(number);
                return part;
            case Model.MONEY:
                part.text = cents(number);
                return part;
            case Model.RATE:
                part.constant[0] = next(8);
                part.constant[1] = 1;
                part.text = part.constant[0] * 100 + "%";
                return part;
            case Model.DATE:
                part.constant[0] = Math.min(LAST, today + number - 50);
                part.text = Model.dateOf(part.constant[0]).toString();
                return part;
            case Model.SPAN:
                boolean days = next(2) == 0 || number % 60 == 0;
                part.constant = new long[] {days ? 0 : number % 60, days ? number : 0};
                part.text = days ? number + " days" : number % 60 + " months";
                return part;
            case Model.PERSON:
                return next(2) == 0 ? leaf("self", kind, -1, "self") : leaf("state", kind, -1, "state");
            default:
                return with("real", kind, "real(%s)", constant(Model.COUNT));
        }
    }

    /** A PART over others, whose texts come one by one to the places of %s. */
    Model.Part with(String op, int kind, String text, Model.Part... under) {
        Model.Part part = new Model.Part(op, kind, under);
        part.text = text;
        for (Model.Part one : under) {
            part.text = part.text.replaceFirst("%s", one.text);
        }
        return part;
    }

    Model.Part two(String op, int kind, Model.Part left, Model.Part right) {
        return with(op, kind, "(%s " + op + " %s)", left, right);
    }

    Model.Part call(String op, int kind, Model.Part... under) {
        return with(op, kind, op + "(%s" + ", %s".repeat(under.length - 1) + ")", under);
    }

    String any(String... words) {
        return words[next(words.length)];
    }

    Model.Part part(int kind, int depth) {
        int of = next(10);
        if (depth <= 0 || of == 0) {
            int way = next(6);
            if (way < 3) {
                int name = kind == Model.PERSON && next(2) == 0 ? Check.MATE : kind;
                return leaf("fact", kind, name, NAMES[name]);
            }
            if (way < 5 && !(kind == Model.DATE && next(2) == 0)) {
                return constant(kind);
            }
            if (kind == Model.DATE) {
                return leaf("day", kind, -1, "day");
            }
            int name = kind == Model.MONEY && next(3) == 0 ? Check.WHOLE_TAX : Check.YES + kind;
            return leaf("term", kind, name, NAMES[name]);
        }
        int less = depth - 1;
        switch (of) {
            case 1:
                return two("of", kind, part(kind, less), part(Model.PERSON, less));
            case 2:
                return two("on", kind, part(kind, less), part(Model.DATE, less));
            case 3:
                return call("if", kind, part(Model.TRUTH, less), part(kind, less), part(kind, less));
            default:
                return operation(kind, less);
        }
    }

    boolean isSummed(int kind) {
        return kind == Model.COUNT || kind == Model.MONEY || kind == Model.RATE || kind == Model.REAL;
    }

    Model.Part operation(int kind, int depth) {
        if (isSummed(kind) && next(5) == 0) {
            return next(2) == 0 ? set(any("sum", "greatest", "smallest"), kind, kind, depth)
                    : call("over", kind, part(kind, depth), part(Model.DATE, depth), part(Model.DATE, depth));
        }
        if (isSummed(kind) && next(5) == 0) {
            return next(2) == 0 ? call(any("least", "most"), kind, part(kind, depth), part(kind, depth))
                    : call("size", kind, part(kind, depth));
        }
        switch (kind) {
            case Model.TRUTH:
                return truth(depth);
            case Model.COUNT:
                return count(depth);
            case Model.MONEY:
                return money(depth);
            case Model.RATE:
                int left = next(2) == 0 ? Model.RATE : Model.COUNT;
                if (next(5) == 0) {
                    return two("/", kind, part(Model.MONEY, depth), part(Model.MONEY, depth));
                }
                if (next(6) == 0) {
                    return reading("level", kind, TERMS, depth);
                }
                return two(any("+", "-", "*", "/"), kind, part(left, depth), part(Model.RATE, depth));
            case Model.DATE:
                return date(depth);
            case Model.SPAN:
                return span(depth);
            case Model.REAL:
                return real(depth);
            default:
                return two("of", kind, part(kind, depth), part(kind, depth));
        }
    }

    Model.Part set(String op, int kind, int ofKind, int depth) {
        int name = next(3) == 0 ? -1 : next(2) == 0 ? Check.PARENT : Check.MATE;
        Model.Part part = with(op, kind, op + "(%s, " + (name < 0 ? "together" : NAMES[name]) + ")", part(ofKind, depth));
        part.name = name;
        return part;
    }

    Model.Part reading(String op, int kind, int table, int depth) {
        Model.Part part = with(op, kind, op + "(" + NAMES[table] + ", %s)", part(Model.MONEY, depth));
        part.name = table;
        return part;
    }

    Model.Part truth(int depth) {
        switch (next(6)) {
            case 0:
                return two(any("or", "and"), Model.TRUTH, part(Model.TRUTH, depth), part(Model.TRUTH, depth));
            case 1:
                return with("not", Model.TRUTH, "(not %s)", part(Model.TRUTH, depth));
            case 2:
                int name = next(FACTS);
                return leaf("has", Model.TRUTH, name, "has(" + NAMES[name] + ")");
            case 3:
                return set(any("any", "all"), Model.TRUTH, Model.TRUTH, depth);
            case 4:
                int kind = next(8);
                return two(any("=", "#"), Model.TRUTH, part(kind, depth), part(kind, depth));
            default:
                int[] ordered = {Model.COUNT, Model.MONEY, Model.RATE, Model.DATE, Model.REAL};
                int left = ordered[next(5)];
                int right = left == Model.COUNT && next(2) == 0 ? Model.RATE : left;
                return two(any("<", "<=", ">", ">="), Model.TRUTH, part(left, depth), part(right, depth));
        }
    }

    Model.Part count(int depth) {
        switch (next(6)) {
            case 0:
                return call(any("fullmonths", "fullyears", "daysto"), Model.COUNT, part(Model.DATE, depth), part(Model.DATE, depth));
            case 1:
                return call(any("yearof", "monthof", "dayof", "weekday"), Model.COUNT, part(Model.DATE, depth));
            case 2:
                return call("whole", Model.COUNT, part(next(2) == 0 ? Model.RATE : Model.REAL, depth));
            case 3:
                return set("count", Model.COUNT, Model.TRUTH, depth);
            case 4:
                return with("- ", Model.COUNT, "(- %s)", part(Model.COUNT, depth));
            default:
                return two(any("+", "-", "*", "rem"), Model.COUNT, part(Model.COUNT, depth), part(Model.COUNT, depth));
        }
    }

    Model.Part money(int depth) {
        int other = next(2) == 0 ? Model.COUNT : Model.RATE;
        switch (next(8)) {
            case 0:
                return two(any("*", "/"), Model.MONEY, part(Model.MONEY, depth), part(other, depth));
            case 1:
                return two("*", Model.MONEY, part(other, depth), part(Model.MONEY, depth));
            case 2:
                return call(any("up", "down", "near", "even"), Model.MONEY, part(Model.MONEY, depth), part(Model.MONEY, depth));
            case 3:
                return call("cents", Model.MONEY, part(Model.REAL, depth));
            case 4:
                return reading(any("level", "between"), Model.MONEY, TERMS + 1, depth);
            case 5:
                return reading("slices", Model.MONEY, TERMS, depth);
            case 6:
                return with("- ", Model.MONEY, "(- %s)", part(Model.MONEY, depth));
            default:
                return two(any("+", "-", "rem"), Model.MONEY, part(Model.MONEY, depth), part(Model.MONEY, depth));
        }
    }

    Model.Part date(int depth) {
        switch (next(4)) {
            case 0:
                return call(any("first", "last", "due"), Model.DATE, part(Model.DATE, depth));
            case 1:
                return call(any("least", "most"), Model.DATE, part(Model.DATE, depth), part(Model.DATE, depth));
            case 2:
                Model.Part year = new Model.Part("constant", Model.COUNT);
                year.constant = new long[] {1899 + next(182), 0};
                year.text = String.valueOf(year.constant[0]);
                return call("date", Model.DATE, year, part(Model.COUNT, depth), part(Model.COUNT, depth));
            default:
                return two(any("+", "-"), Model.DATE, part(Model.DATE, depth), part(Model.SPAN, depth));
        }
    }

    Model.Part span(int depth) {
        switch (next(4)) {
            case 0:
                return two("-", Model.SPAN, part(Model.DATE, depth), part(Model.DATE, depth));
            case 1:
                return next(2) == 0 ? two("*", Model.SPAN, part(Model.SPAN, depth), part(Model.COUNT, depth))
                        : two("*", Model.SPAN, part(Model.COUNT, depth), part(Model.SPAN, depth));
            case 2:
                return with("- ", Model.SPAN, "(- %s)", part(Model.SPAN, depth));
            default:
                return two(any("+", "-"), Model.SPAN, part(Model.SPAN, depth), part(Model.SPAN, depth));
        }
    }

    Model.Part real(int depth) {
        switch (next(4)) {
            case 0:
                return call("real", Model.REAL, part(any("c", "m", "r").charAt(0) == 'c' ? Model.COUNT
                        : next(2) == 0 ? Model.MONEY : Model.RATE, depth));
            case 1:
                return call("root", Model.REAL, part(Model.REAL, depth));
            case 2:
                return with("- ", Model.REAL, "(- %s)", part(Model.REAL, depth));
            default:
                return two(any("+", "-", "*", "/", "rem"), Model.REAL, part(Model.REAL, depth), part(Model.REAL, depth));
        }
    }
}
