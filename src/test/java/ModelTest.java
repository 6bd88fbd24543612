import java.util.ArrayList;
import java.util.Arrays;
import java.util.List;

/** Laws, facts and questions made by a fixed rule, and all that is reckoned of them held against a second reckoner. */
public final class ModelTest {
    private static final int LAST = Check.LAST;
    private static final String[] NAMES = {"flag", "n", "pay", "part", "birth", "gone", "odd", "parent", "mate", "yes", "kids",
        "tax", "share", "when_due", "notice", "index", "head", "whole_tax", "slope", "fees"};
    private static final int[] KINDS = {0, 1, 2, 3, 4, 5, 6, 7, 7, 0, 1, 2, 3, 4, 5, 6, 7, 2, 3, 2};
    private static final long[][] ELSES = new long[20][];
    private static final int FACTS = 9;
    private static final int TERMS = 18;
    private static final int[] ARTICLES = {27, 28, 29, 54, 55};
    private static final Check CHECK = new Check();
    private static long state = 8;
    private static Model model;
    private static int today;
    private static List<List<Model.Version>> laws;
    private static final int[] OUTCOMES = new int[10];

    public static void main(String[] args) {
        ELSES[Check.FLAG] = new long[] {0, 0};
        ELSES[Check.N] = new long[] {0, 0};
        ELSES[Check.PAY] = new long[] {0, 0};
        ELSES[Check.GONE] = new long[] {2, 0};
        ELSES[Check.KIDS] = new long[] {-1, 0};
        ELSES[Check.SHARE] = new long[] {1, 5};
        for (int trial = 0; trial < 250; trial++) {
            begin();
            for (int turn = 0; turn < 4; turn++) {
                tell();
                legislate();
                for (int i = 0; i < 12; i++) {
                    ask();
                    reckon();
                }
                trials();
                today += next(120);
                CHECK.house.pass(today);
            }
        }
        for (int i = 0; i < OUTCOMES.length; i++) {
            CHECK.due("many end with " + i, i == 4 || i == 5 || OUTCOMES[i] > 10 ? 1 : OUTCOMES[i], 1);
        }
        CHECK.end("ModelTest");
    }

    private static int next(int below) {
        state = state * 6364136223846793005L + 1442695040888963407L;
        return (int) ((state >>> 33) % below);
    }

    private static boolean often() {
        return next(4) > 0;
    }

    private static boolean seldom() {
        return next(6) == 0;
    }

    private static void begin() {
        CHECK.furnished(4);
        model = new Model(KINDS, ELSES, Check.MATE, Check.WHOLE_TAX);
        model.people = 5;
        today = Check.TODAY;
        laws = new ArrayList<>();
        for (int law = 0; law < 4; law++) {
            laws.add(new ArrayList<>());
        }
    }

    private static int dayNear() {
        return seldom() ? next(LAST + 1) : today - 300 + next(500);
    }

    private static long[] valueOf(int kind) {
        switch (kind) {
            case Model.TRUTH:
                return new long[] {next(2), 0};
            case Model.COUNT:
                return new long[] {seldom() ? Integer.MIN_VALUE + next(3) : next(15) - 4, 0};
            case Model.MONEY:
                return new long[] {seldom() ? 999999999000L + next(1000) : next(600000) - 100000, 0};
            case Model.RATE:
                return next(2) == 0 ? new long[] {next(5), 1} : new long[] {2 * next(9) - 7, 1 << next(19)};
            case Model.DATE:
                return new long[] {dayNear(), 0};
            case Model.SPAN:
                return new long[] {next(30) - 5, next(90) - 20};
            case Model.REAL:
                return new long[] {Check.bits((next(2000) - 300) / (double) (1 + next(40))), 0};
            default:
                return new long[] {next(5), 0};
        }
    }

    /** RECORDS, SUPPOSITIONS and that these are forgotten. */
    private static void tell() {
        StatuteHouse house = CHECK.house;
        for (int i = 0; i < 25; i++) {
            int person = next(5);
            int name = next(FACTS);
            long[] value = valueOf(KINDS[name]);
            int from = often() ? Math.min(dayNear(), LAST) : 0;
            int to = often() ? LAST : Math.min(LAST, from + next(200));
            boolean withdrawn = seldom();
            int answer = withdrawn ? house.withdraw(person, name, from, to)
                    : house.fact(person, name, value[0], value[1], from, to);
            if (answer != -4) {
                model.records.add(new Model.Told(person, name, value[0], value[1], from, to, today, withdrawn));
                CHECK.due("records", answer, model.records.size());
            }
        }
        if (seldom()) {
            CHECK.due("forget", house.forget(), model.supposed.size());
            model.supposed.clear();
        } else if (seldom()) {
            suppose(next(5), next(FACTS));
        }
    }

    private static void suppose(int person, int name) {
        long[] value = valueOf(KINDS[name]);
        model.supposed.removeIf(s -> s.person() == person && s.name() == name);
        model.supposed.add(new Model.Told(person, name, value[0], value[1], 0, LAST, 0, false));
        CHECK.due("suppose", CHECK.house.suppose(person, name, value[0], value[1]), model.supposed.size());
    }

    private static String address(int article) {
        return article / 27 + (article % 27 > 0 ? " " + (char) ('a' + article % 27 - 1) : "");
    }

    /** A text for a LAW, now and then a DRAFT that is forked or adopted, or a RULE that is annulled. */
    private static void legislate() {
        StatuteHouse house = CHECK.house;
        int law = often() ? 0 : 1 + next(3);
        for (int i = 0; i < 3; i++) {
            StringBuilder text = new StringBuilder();
            Model.Version version = version(law, text);
            if (text.length() < 3900) {
                CHECK.due(text.toString(), CHECK.enact(law, text.toString()), 1);
                laws.get(law).add(version);
            }
        }
        if (seldom()) {
            int draft = 1 + next(3);
            CHECK.due("fork", house.fork(draft), laws.get(0).size());
            laws.set(draft, new ArrayList<>(laws.get(0)));
        }
        int article = ARTICLES[next(ARTICLES.length)];
        int number = 1 + next(4);
        int from = Math.max(0, Math.min(LAST, dayNear()));
        model.versions = laws.get(0);
        Model.Version at = Model.inForce(model.versions, from, today).get(article);
        Model.Rule rule = at == null || number > at.rules.size() ? null : at.rules.get(number - 1);
        int answer = seldom() ? house.annul(article, number, from) : -1;
        if (answer > 0) {
            CHECK.due("there is one to annul", rule == null ? 0 : 1, 1);
            model.annulled.add(new Model.Annulled(rule, from, today));
        }
    }

    private static Model.Version version(int law, StringBuilder text) {
        Model.Version version = new Model.Version();
        version.article = ARTICLES[next(ARTICLES.length)];
        version.from = Math.max(0, today - 400 + next(600));
        version.told = today;
        Model.Version before = Model.inForce(laws.get(law), version.from, today).get(version.article);
        boolean amends = before != null && next(2) == 0;
        text.append(amends ? "amend " : "article ").append(address(version.article)).append(" from ")
                .append(Model.dateOf(version.from)).append(" {\n");
        if (amends) {
            version.rules.addAll(before.rules);
        }
        for (int i = 1 + next(4); i > 0; i--) {
            if (amends && next(2) == 0 && !version.rules.isEmpty()) {
                int number = 1 + next(version.rules.size());
                boolean strikes = next(2) == 0;
                text.append(strikes ? "strike " : "put ").append(number).append(strikes ? ";" : ": ");
                version.rules.set(number - 1, strikes ? null : rule(text));
            } else {
                text.append(amends ? "add " : "");
                version.rules.add(rule(text));
            }
        }
        text.append("}");
        return version;
    }

    private static Model.Rule rule(StringBuilder text) {
        if (next(12) == 0) {
            text.append("void;");
            return null;
        }
        Model.Rule rule = new Model.Rule();
        if (next(5) == 0) {
            table(rule, text);
            return rule;
        }
        rule.name = FACTS + next(TERMS - FACTS);
        if (next(3) == 0) {
            rule.article = ARTICLES[next(ARTICLES.length)];
            rule.number = 1 + next(4);
            text.append("except ").append(address(rule.article)).append(" / ").append(rule.number).append(": ");
        }
        rule.ex = part(KINDS[rule.name], 1 + next(3));
        text.append(NAMES[rule.name]).append(" is ").append(rule.ex.text);
        if (next(2) == 0) {
            rule.when = part(Model.TRUTH, 1 + next(2));
            text.append(" when ").append(rule.when.text);
        }
        text.append(";\n");
        return rule;
    }

    private static void table(Model.Rule rule, StringBuilder text) {
        rule.name = TERMS + next(2);
        rule.rows = new ArrayList<>();
        text.append("table ").append(NAMES[rule.name]).append(" {");
        long bound = next(3000);
        for (int i = 1 + next(4); i > 0; i--) {
            int value = next(rule.name == TERMS ? 60 : 90000);
            int shared = 1;
            for (int by = 2; by <= 100; by++) {
                shared = 100 % by == 0 && value % by == 0 ? by : shared;
            }
            rule.rows.add(rule.name == TERMS ? new long[] {bound, value / shared, 100 / shared} : new long[] {bound, value, 0});
            text.append(cents(bound)).append(": ").append(rule.name == TERMS ? value + "%" : cents(value)).append("; ");
            bound += 1 + next(200000);
        }
        text.append("}\n");
    }

    private static String cents(long cents) {
        return cents / 100 + "." + cents / 10 % 10 + cents % 10;
    }

    private static Model.Part leaf(String op, int kind, int name, String text) {
        Model.Part part = new Model.Part(op, kind);
        part.name = name;
        part.text = text;
        return part;
    }

    private static Model.Part constant(int kind) {
        Model.Part part = new Model.Part("constant", kind);
        int number = next(4) == 0 ? next(9999) : next(20);
        part.constant = new long[] {number, 0};
        switch (kind) {
            case Model.TRUTH:
                part.constant[0] = number % 2;
                part.text = number % 2 == 0 ? "false" : "true";
                return part;
            case Model.COUNT:
                part.text = String.valueOf(number);
                return part;
            case Model.MONEY:
                part.text = cents(number);
                return part;
            case Model.RATE:
                part.constant[0] = next(8);
                part.constant[1] = 1;
                part.text = part.constant[0] + "00%";
                return part;
            case Model.DATE:
                part.constant[0] = Math.min(LAST, today + number - 50);
                part.text = Model.dateOf(part.constant[0]).toString();
                return part;
            case Model.SPAN:
                boolean days = next(2) == 0;
                part.constant = new long[] {days ? 0 : number % 60, days ? number : 0};
                part.text = days ? number + " days" : number % 60 + " months";
                return part;
            case Model.PERSON:
                return next(2) == 0 ? leaf("self", kind, -1, "self") : leaf("state", kind, -1, "state");
            default:
                return with("real", kind, "real(%s)", constant(Model.COUNT));
        }
    }

    /** A PART over others, whose texts come one by one to the places of %s. */
    private static Model.Part with(String op, int kind, String text, Model.Part... under) {
        Model.Part part = new Model.Part(op, kind, under);
        part.text = text;
        for (Model.Part one : under) {
            part.text = part.text.replaceFirst("%s", one.text);
        }
        return part;
    }

    private static Model.Part two(String op, int kind, Model.Part left, Model.Part right) {
        return with(op, kind, "(%s " + op + " %s)", left, right);
    }

    private static Model.Part call(String op, int kind, Model.Part... under) {
        return with(op, kind, op + "(%s" + ", %s".repeat(under.length - 1) + ")", under);
    }

    private static String any(String... words) {
        return words[next(words.length)];
    }

    private static Model.Part part(int kind, int depth) {
        int of = next(10);
        if (depth <= 0 || of == 0) {
            int way = next(6);
            if (way < 3) {
                int name = kind == Model.PERSON && next(2) == 0 ? Check.MATE : kind;
                return leaf("fact", kind, name, NAMES[name]);
            }
            if (way < 5 && !(kind == Model.DATE && next(2) == 0)) {
                return constant(kind);
            }
            if (kind == Model.DATE) {
                return leaf("day", kind, -1, "day");
            }
            int name = kind == Model.MONEY && next(3) == 0 ? Check.WHOLE_TAX : Check.YES + kind;
            return leaf("term", kind, name, NAMES[name]);
        }
        int less = depth - 1;
        switch (of) {
            case 1:
                return two("of", kind, part(kind, less), part(Model.PERSON, less));
            case 2:
                return two("on", kind, part(kind, less), part(Model.DATE, less));
            case 3:
                return call("if", kind, part(Model.TRUTH, less), part(kind, less), part(kind, less));
            default:
                return operation(kind, less);
        }
    }

    private static boolean isSummed(int kind) {
        return kind == Model.COUNT || kind == Model.MONEY || kind == Model.RATE || kind == Model.REAL;
    }

    private static Model.Part operation(int kind, int depth) {
        if (isSummed(kind) && next(5) == 0) {
            return next(2) == 0 ? set(any("sum", "greatest", "smallest"), kind, kind, depth)
                    : call("over", kind, part(kind, depth), part(Model.DATE, depth), part(Model.DATE, depth));
        }
        if (isSummed(kind) && next(5) == 0) {
            return next(2) == 0 ? call(any("least", "most"), kind, part(kind, depth), part(kind, depth))
                    : call("size", kind, part(kind, depth));
        }
        switch (kind) {
            case Model.TRUTH:
                return truth(depth);
            case Model.COUNT:
                return count(depth);
            case Model.MONEY:
                return money(depth);
            case Model.RATE:
                int left = next(2) == 0 ? Model.RATE : Model.COUNT;
                if (next(5) == 0) {
                    return two("/", kind, part(Model.MONEY, depth), part(Model.MONEY, depth));
                }
                if (next(6) == 0) {
                    return reading("level", kind, TERMS, depth);
                }
                return two(any("+", "-", "*", "/"), kind, part(left, depth), part(Model.RATE, depth));
            case Model.DATE:
                return date(depth);
            case Model.SPAN:
                return span(depth);
            case Model.REAL:
                return real(depth);
            default:
                return two("of", kind, part(kind, depth), part(kind, depth));
        }
    }

    private static Model.Part set(String op, int kind, int ofKind, int depth) {
        int name = next(3) == 0 ? -1 : next(2) == 0 ? Check.PARENT : Check.MATE;
        Model.Part part = with(op, kind, op + "(%s, " + (name < 0 ? "together" : NAMES[name]) + ")", part(ofKind, depth));
        part.name = name;
        return part;
    }

    private static Model.Part reading(String op, int kind, int table, int depth) {
        Model.Part part = with(op, kind, op + "(" + NAMES[table] + ", %s)", part(Model.MONEY, depth));
        part.name = table;
        return part;
    }

    private static Model.Part truth(int depth) {
        switch (next(6)) {
            case 0:
                return two(any("or", "and"), Model.TRUTH, part(Model.TRUTH, depth), part(Model.TRUTH, depth));
            case 1:
                return with("not", Model.TRUTH, "(not %s)", part(Model.TRUTH, depth));
            case 2:
                int name = next(FACTS);
                return leaf("has", Model.TRUTH, name, "has(" + NAMES[name] + ")");
            case 3:
                return set(any("any", "all"), Model.TRUTH, Model.TRUTH, depth);
            case 4:
                int kind = next(8);
                return two(any("=", "#"), Model.TRUTH, part(kind, depth), part(kind, depth));
            default:
                int[] ordered = {Model.COUNT, Model.MONEY, Model.RATE, Model.DATE, Model.REAL};
                int left = ordered[next(5)];
                int right = left == Model.COUNT && next(2) == 0 ? Model.RATE : left;
                return two(any("<", "<=", ">", ">="), Model.TRUTH, part(left, depth), part(right, depth));
        }
    }

    private static Model.Part count(int depth) {
        switch (next(6)) {
            case 0:
                return call(any("fullmonths", "fullyears", "daysto"), Model.COUNT, part(Model.DATE, depth), part(Model.DATE, depth));
            case 1:
                return call(any("yearof", "monthof", "dayof", "weekday"), Model.COUNT, part(Model.DATE, depth));
            case 2:
                return call("whole", Model.COUNT, part(next(2) == 0 ? Model.RATE : Model.REAL, depth));
            case 3:
                return set("count", Model.COUNT, Model.TRUTH, depth);
            case 4:
                return with("- ", Model.COUNT, "(- %s)", part(Model.COUNT, depth));
            default:
                return two(any("+", "-", "*", "rem"), Model.COUNT, part(Model.COUNT, depth), part(Model.COUNT, depth));
        }
    }

    private static Model.Part money(int depth) {
        int other = next(2) == 0 ? Model.COUNT : Model.RATE;
        switch (next(8)) {
            case 0:
                return two(any("*", "/"), Model.MONEY, part(Model.MONEY, depth), part(other, depth));
            case 1:
                return two("*", Model.MONEY, part(other, depth), part(Model.MONEY, depth));
            case 2:
                return call(any("up", "down", "near", "even"), Model.MONEY, part(Model.MONEY, depth), part(Model.MONEY, depth));
            case 3:
                return call("cents", Model.MONEY, part(Model.REAL, depth));
            case 4:
                return reading(any("level", "between"), Model.MONEY, TERMS + 1, depth);
            case 5:
                return reading("slices", Model.MONEY, TERMS, depth);
            case 6:
                return with("- ", Model.MONEY, "(- %s)", part(Model.MONEY, depth));
            default:
                return two(any("+", "-", "rem"), Model.MONEY, part(Model.MONEY, depth), part(Model.MONEY, depth));
        }
    }

    private static Model.Part date(int depth) {
        switch (next(4)) {
            case 0:
                return call(any("first", "last", "due"), Model.DATE, part(Model.DATE, depth));
            case 1:
                return call(any("least", "most"), Model.DATE, part(Model.DATE, depth), part(Model.DATE, depth));
            case 2:
                Model.Part year = new Model.Part("constant", Model.COUNT);
                year.constant = new long[] {1899 + next(182), 0};
                year.text = String.valueOf(year.constant[0]);
                return call("date", Model.DATE, year, part(Model.COUNT, depth), part(Model.COUNT, depth));
            default:
                return two(any("+", "-"), Model.DATE, part(Model.DATE, depth), part(Model.SPAN, depth));
        }
    }

    private static Model.Part span(int depth) {
        switch (next(4)) {
            case 0:
                return two("-", Model.SPAN, part(Model.DATE, depth), part(Model.DATE, depth));
            case 1:
                return next(2) == 0 ? two("*", Model.SPAN, part(Model.SPAN, depth), part(Model.COUNT, depth))
                        : two("*", Model.SPAN, part(Model.COUNT, depth), part(Model.SPAN, depth));
            case 2:
                return with("- ", Model.SPAN, "(- %s)", part(Model.SPAN, depth));
            default:
                return two(any("+", "-"), Model.SPAN, part(Model.SPAN, depth), part(Model.SPAN, depth));
        }
    }

    private static Model.Part real(int depth) {
        switch (next(4)) {
            case 0:
                return call("real", Model.REAL, part(any("c", "m", "r").charAt(0) == 'c' ? Model.COUNT
                        : next(2) == 0 ? Model.MONEY : Model.RATE, depth));
            case 1:
                return call("root", Model.REAL, part(Model.REAL, depth));
            case 2:
                return with("- ", Model.REAL, "(- %s)", part(Model.REAL, depth));
            default:
                return two(any("+", "-", "*", "/", "rem"), Model.REAL, part(Model.REAL, depth), part(Model.REAL, depth));
        }
    }

    private static int aLaw() {
        int law = often() ? 0 : next(4);
        model.versions = laws.get(law);
        return law;
    }

    private static int aDay() {
        return Math.max(0, Math.min(LAST, dayNear()));
    }

    private static int aKnown() {
        return often() ? today : Math.max(0, Math.min(LAST, today - 200 + next(250)));
    }

    private static void ask() {
        Model.Part question = part(next(8), next(5));
        int law = aLaw();
        int person = next(5);
        int day = aDay();
        int known = aKnown();
        if (question.text.length() > 3900) {
            return;
        }
        model.steps = 0;
        long[] want = model.reckon(-1, question, person, day, known);
        CHECK.feed(question.text);
        same(question.text, CHECK.house.ask(law, person, day, known), question.kind, want);
    }

    private static void reckon() {
        int term = FACTS + next(TERMS - FACTS);
        int law = aLaw();
        int person = next(5);
        int day = aDay();
        int known = aKnown();
        model.steps = 0;
        long[] want = model.reckon(term, null, person, day, known);
        same(NAMES[term], CHECK.house.reckon(law, term, person, day, known), KINDS[term], want);
    }

    private static void same(String what, int answer, int kind, long[] want) {
        StatuteHouse house = CHECK.house;
        OUTCOMES[want == null ? model.failed[0] : 0]++;
        CHECK.due(what, answer, want == null ? -10 - model.failed[0] : kind);
        if (want != null) {
            CHECK.due(what + " first", house.value(0), want[0]);
            CHECK.due(what + " second", house.value(1), want[1]);
        }
        CHECK.due(what + " lines", house.count(13), model.lines.size());
        for (int i = 0; i < Math.min(300, model.lines.size()); i++) {
            for (int column = 0; column < 10; column++) {
                CHECK.due(what + " line " + i + ", " + column, house.why(i, column), model.lines.get(i)[column]);
            }
        }
        stepsAndFault(what);
    }

    private static void stepsAndFault(String what) {
        CHECK.due(what + " steps", CHECK.house.count(12), model.steps);
        for (int i = 0; i < 6; i++) {
            CHECK.due(what + " failed " + i, CHECK.house.failed(i), model.failed[i]);
        }
    }

    /** The calls that reckon one time after the other. */
    private static void trials() {
        changes();
        measure();
        forecast();
        solve();
        decide();
    }

    private static void changes() {
        int law = aLaw();
        int term = FACTS + next(TERMS - FACTS);
        int person = next(5);
        int from = Math.max(0, today - 200 + next(300));
        int to = from + next(40);
        int known = aKnown();
        model.steps = 0;
        List<long[]> want = new ArrayList<>();
        for (int day = from; day <= to; day++) {
            long[] value = model.reckon(term, null, person, day, known);
            long[] outcome = {value == null ? model.failed[0] : 0, value == null ? 0 : value[0], value == null ? 0 : value[1]};
            long[] last = want.isEmpty() ? null : want.get(want.size() - 1);
            if (last == null || !Arrays.equals(outcome, Arrays.copyOfRange(last, 1, 4))) {
                want.add(new long[] {day, outcome[0], outcome[1], outcome[2]});
            }
        }
        CHECK.due("changes", CHECK.house.changes(law, term, person, from, to, known), want.size());
        for (int i = 0; i < want.size(); i++) {
            for (int what = 0; what < 4; what++) {
                CHECK.due("change " + i + ", " + what, CHECK.house.changed(i, what), want.get(i)[what]);
            }
        }
        stepsAndFault("changes");
    }

    private static void measure() {
        int law = next(4);
        int other = next(5) - 1;
        int term = next(2) == 0 ? Check.TAX : Check.WHOLE_TAX;
        int day = aDay();
        model.steps = 0;
        long[] want = new long[12];
        long least = Long.MAX_VALUE;
        long most = Long.MIN_VALUE;
        for (int person = 1; person < 5; person++) {
            model.versions = laws.get(law);
            long[] mine = model.reckon(term, null, person, day, today);
            model.versions = laws.get(Math.max(other, 0));
            long[] theirs = mine == null || other < 0 ? mine : model.reckon(term, null, person, day, today);
            if (theirs == null) {
                want[1]++;
                continue;
            }
            want[0]++;
            want[2] += mine[0];
            least = Math.min(least, mine[0]);
            most = Math.max(most, mine[0]);
            want[8] += theirs[0] > mine[0] ? 1 : 0;
            want[9] += theirs[0] < mine[0] ? 1 : 0;
            want[10] += Math.max(0, theirs[0] - mine[0]);
            want[11] += Math.max(0, mine[0] - theirs[0]);
        }
        want[3] = want[0] == 0 ? 0 : least;
        want[4] = want[0] == 0 ? 0 : most;
        CHECK.due("measure", CHECK.house.measure(law, other, term, day), want[0]);
        for (int what : new int[] {0, 1, 2, 3, 4, 8, 9, 10, 11}) {
            CHECK.due("measured " + what, CHECK.house.measured(what), want[what]);
        }
        stepsAndFault("measure");
    }

    private static void forecast() {
        int law = aLaw();
        int term = next(2) == 0 ? Check.TAX : Check.WHOLE_TAX;
        int first = (int) Model.dayOf(Model.dateOf(Math.max(31, today - 100)).withDayOfMonth(1));
        int months = 1 + next(4);
        model.steps = 0;
        CHECK.due("forecast", CHECK.house.forecast(law, term, first, months), months);
        for (int month = 0; month < months; month++) {
            int day = (int) Model.dayOf(Model.dateOf(first).plusMonths(month));
            long sum = 0;
            int many = 0;
            for (int person = 1; person < 5; person++) {
                long[] value = model.reckon(term, null, person, day, today);
                sum += value == null ? 0 : value[0];
                many += value == null ? 0 : 1;
            }
            CHECK.due("sum of month " + month, CHECK.house.forecasted(month, 0), sum);
            CHECK.due("how many of month " + month, CHECK.house.forecasted(month, 1), many);
        }
        stepsAndFault("forecast");
    }

    private static void solve() {
        int law = aLaw();
        int person = next(5);
        int day = aDay();
        int name = next(2) == 0 ? Check.N : Check.PAY;
        long low = next(200) - 100;
        long high = low + next(1000);
        List<Model.Told> before = new ArrayList<>(model.supposed);
        model.supposed.removeIf(s -> s.person() == person && s.name() == name);
        model.steps = 0;
        long least = low;
        long most = high;
        long want = 2;
        while (want == 2) {
            boolean last = least == most;
            long tried = last ? least : Math.floorDiv(least + most, 2);
            model.supposed.add(new Model.Told(person, name, tried, 0, 0, LAST, 0, false));
            long[] value = model.reckon(Check.YES, null, person, day, today);
            model.supposed.remove(model.supposed.size() - 1);
            if (value == null) {
                want = -10 - model.failed[0];
            } else if (last) {
                want = value[0];
            } else if (value[0] == 1) {
                most = tried;
            } else {
                least = tried + 1;
            }
        }
        model.supposed.clear();
        model.supposed.addAll(before);
        CHECK.due("solve", CHECK.house.solve(law, Check.YES, person, day, name, low, high), want);
        if (want >= 0) {
            CHECK.due("solved", CHECK.house.solved(), least);
        }
        stepsAndFault("solve");
    }

    private static void decide() {
        int person = next(5);
        int term = next(2) == 0 ? Check.TAX : Check.WHOLE_TAX;
        int first = (int) Model.dayOf(Model.dateOf(Math.max(31, today - 60)).withDayOfMonth(1));
        int months = 1 + next(4);
        model.versions = laws.get(0);
        model.supposing = false;
        model.steps = 0;
        long[] amounts = new long[months];
        long want = CHECK.house.count(5);
        for (int month = 0; month < months && want >= 0; month++) {
            int day = (int) Model.dayOf(Model.dateOf(first).plusMonths(month));
            long[] value = model.reckon(term, null, person, day, today);
            want = value == null ? -10 - model.failed[0] : want;
            amounts[month] = value == null ? 0 : value[0];
        }
        model.supposing = true;
        int bookings = CHECK.house.count(6);
        CHECK.due("decide", CHECK.house.decide(person, term, first, months), want);
        for (int month = 0; month < months && want >= 0; month++) {
            CHECK.due("amount " + month, CHECK.house.amount((int) want, month), amounts[month]);
            CHECK.due("booked " + month, CHECK.house.booking(bookings + month, 3), amounts[month]);
        }
        CHECK.due("bookings", CHECK.house.count(6), want < 0 ? bookings : bookings + months);
        stepsAndFault("decide");
    }
}
