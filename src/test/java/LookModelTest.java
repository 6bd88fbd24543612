import java.util.ArrayList;
import java.util.Arrays;
import java.util.HashSet;
import java.util.List;
import java.util.Set;
import java.util.TreeMap;
import java.util.TreeSet;

/** What is written, annulled, other, missing or in a ring in laws made by a fixed rule, held against a second look at them. */
public final class LookModelTest {
    private static final int NONE = -1;
    private static final int FULL = -4;
    private static final int CONFLICT = 2;
    private static final String[] ATOMS = {"flag", "yes", "has(n)", "(n > 1)", "(pay < tax)", "(flag of self)", "any(yes, mate)",
        "(kids = 5)", "true", "working(day)"};
    private static final Check CHECK = new Check();
    private static final Maker MAKER = new Maker(47);
    private static Model model;
    private static int today;
    private static List<List<Model.Version>> laws;
    private static int parts;
    private static int rules;
    private static int rows;
    private static int versions;
    /** Of each DRAFT how many VERSIONS are there as forked. */
    private static final int[] FORKED = new int[4];
    private static final int[] SEEN = new int[9];

    public static void main(String[] args) {
        for (int trial = 0; trial < 400; trial++) {
            begin();
            for (int turn = 0; turn < 4; turn++) {
                for (int i = 0; i < 3; i++) {
                    enact(MAKER.next(2) * MAKER.next(4));
                    annul();
                }
                drafts();
                for (int i = 0; i < 5; i++) {
                    write();
                    differ();
                    gaps();
                    ring();
                }
                counts();
                today += MAKER.next(100);
                MAKER.today = today;
                CHECK.house.pass(today);
            }
        }
        for (int i = 0; i < SEEN.length; i++) {
            CHECK.due("many of sort " + i, SEEN[i] > 50 ? 1 : SEEN[i], 1);
        }
        CHECK.end("LookModelTest");
    }

    private static void begin() {
        CHECK.furnished(2);
        model = new Model(Maker.KINDS, new long[20][], Check.MATE, Check.WHOLE_TAX);
        today = Check.TODAY;
        MAKER.today = today;
        laws = new ArrayList<>();
        for (int law = 0; law < 4; law++) {
            laws.add(new ArrayList<>());
        }
        parts = 0;
        rules = 0;
        rows = 0;
        versions = 0;
        Arrays.fill(FORKED, 0);
    }

    private static int aDay() {
        return Math.max(0, today - 500 + MAKER.next(800));
    }

    private static int aKnown() {
        return Math.max(0, today - 150 + MAKER.next(200));
    }

    /** A VERSION of any sort, or one whose RULES are of one TERM and hang on few conditions. */
    private static void enact(int law) {
        StringBuilder text = new StringBuilder();
        Model.Version version = MAKER.next(2) == 0 ? MAKER.version(laws.get(law), text) : conditions(text);
        if (text.length() > 3900 || versions > 190) {
            return;
        }
        CHECK.due(text.toString(), CHECK.enact(law, text.toString()), 1);
        for (Model.Rule rule : MAKER.made) {
            rules++;
            rows += rule.rows == null ? 0 : rule.rows.size();
            parts += sizeOf(rule.ex) + sizeOf(rule.when);
        }
        laws.get(law).add(version);
        versions++;
    }

    private static int sizeOf(Model.Part part) {
        int size = part == null ? 0 : 1;
        for (int i = 0; part != null && i < part.under.length; i++) {
            size += sizeOf(part.under[i]);
        }
        return size;
    }

    private static Model.Version conditions(StringBuilder text) {
        Model.Version version = new Model.Version();
        version.article = Maker.ARTICLES[MAKER.next(5)];
        version.from = Math.max(0, today - 400 + MAKER.next(500));
        version.told = today;
        text.append("article ").append(MAKER.address(version.article)).append(" from ").append(Model.dateOf(version.from))
                .append(" {");
        for (int i = 1 + MAKER.next(7); i > 0; i--) {
            Model.Rule rule = new Model.Rule();
            rule.name = Check.KIDS;
            if (MAKER.next(2) == 0) {
                rule.article = MAKER.next(2) == 0 ? version.article : Maker.ARTICLES[MAKER.next(5)];
                rule.number = 1 + MAKER.next(7);
                text.append("except ").append(MAKER.address(rule.article)).append("/").append(rule.number).append(":");
            }
            rule.ex = new Model.Part("constant", Model.COUNT);
            rule.ex.text = String.valueOf(i);
            text.append(" kids is ").append(i);
            if (MAKER.next(5) > 0) {
                rule.when = condition(MAKER.next(4));
                text.append(" when ").append(rule.when.text);
            }
            text.append(";");
            version.rules.add(rule);
        }
        text.append("}");
        MAKER.made.clear();
        MAKER.made.addAll(version.rules);
        return version;
    }

    private static Model.Part condition(int depth) {
        if (depth == 0) {
            return atom(MAKER.next(MAKER.next(3) == 0 ? ATOMS.length : 3));
        }
        if (MAKER.next(3) == 0) {
            Model.Part not = new Model.Part("not", Model.TRUTH, condition(depth - 1));
            not.text = "(not " + not.under[0].text + ")";
            return not;
        }
        Model.Part two = new Model.Part(MAKER.next(2) == 0 ? "or" : "and", Model.TRUTH, condition(depth - 1), condition(depth - 1));
        two.text = "(" + two.under[0].text + " " + two.op + " " + two.under[1].text + ")";
        return two;
    }

    private static Model.Part named(String op, int kind, int name) {
        Model.Part part = new Model.Part(op, kind);
        part.name = name;
        part.text = Maker.NAMES[name];
        return part;
    }

    private static Model.Part atom(int number) {
        Model.Part part;
        switch (number) {
            case 0:
                return named("fact", Model.TRUTH, Check.FLAG);
            case 1:
                return named("term", Model.TRUTH, Check.YES);
            case 2:
                part = new Model.Part("has", Model.TRUTH);
                break;
            case 3:
                part = new Model.Part(">", Model.TRUTH, named("fact", 1, Check.N), new Model.Part("constant", 1));
                break;
            case 4:
                part = new Model.Part("<", Model.TRUTH, named("fact", 2, Check.PAY), named("term", 2, Check.TAX));
                break;
            case 5:
                part = new Model.Part("of", Model.TRUTH, named("fact", 0, Check.FLAG), new Model.Part("self", 7));
                break;
            case 6:
                part = new Model.Part("any", Model.TRUTH, named("term", 0, Check.YES));
                break;
            case 7:
                part = new Model.Part("=", Model.TRUTH, named("term", 1, Check.KIDS), new Model.Part("constant", 1));
                break;
            case 8:
                part = new Model.Part("constant", Model.TRUTH);
                break;
            default:
                part = new Model.Part("working", Model.TRUTH, new Model.Part("day", 4));
                break;
        }
        part.text = ATOMS[number];
        return part;
    }

    private static void annul() {
        int article = Maker.ARTICLES[MAKER.next(5)];
        int number = MAKER.next(6);
        int from = aDay();
        model.versions = laws.get(0);
        Model.Rule found = null;
        for (Model.Placed placed : model.rulesInForce(from, today)) {
            found = placed.article() == article && placed.number() == number ? placed.rule() : found;
        }
        int want = found == null ? NONE : model.annulled.size() == 40 ? FULL : model.annulled.size() + 1;
        if (MAKER.next(4) == 0) {
            CHECK.due("annul", CHECK.house.annul(article, number, from), want);
            if (want > 0) {
                model.annulled.add(new Model.Annulled(found, from, today));
                SEEN[0]++;
            }
        }
    }

    private static void drafts() {
        int draft = 1 + MAKER.next(3);
        if (MAKER.next(4) == 0) {
            CHECK.due("fork", CHECK.house.fork(draft), laws.get(0).size());
            laws.set(draft, new ArrayList<>(laws.get(0)));
            FORKED[draft] = laws.get(0).size();
        }
        if (MAKER.next(3) == 0) {
            int many = laws.get(draft).size() - FORKED[draft];
            CHECK.due("adopt", CHECK.house.adopt(draft), many);
            for (int i = FORKED[draft]; i < laws.get(draft).size(); i++) {
                laws.get(0).add(adopted(laws.get(draft).get(i)));
            }
            FORKED[draft] = laws.get(draft).size();
            SEEN[8] += many;
        }
    }

    private static Model.Version adopted(Model.Version enacted) {
        Model.Version version = new Model.Version();
        version.article = enacted.article;
        version.from = enacted.from;
        version.told = today;
        version.rules.addAll(enacted.rules);
        return version;
    }

    private static String address(int article) {
        return MAKER.address(article).replace(" ", "");
    }

    private static String written(Model.Rule rule) {
        if (rule == null) {
            return "void;\n";
        }
        StringBuilder text = new StringBuilder();
        if (rule.rows != null) {
            text.append("table ").append(Maker.NAMES[rule.name]).append(" {");
            for (long[] row : rule.rows) {
                text.append(" ").append(MAKER.cents(row[0])).append(": ");
                text.append(rule.name == Maker.TERMS ? row[1] * 100 / row[2] + "%" : MAKER.cents(row[1])).append(";");
            }
            return text.append(" }\n").toString();
        }
        if (rule.article != NONE) {
            text.append("except ").append(address(rule.article)).append("/").append(rule.number).append(": ");
        }
        text.append(Maker.NAMES[rule.name]).append(" is ").append(rule.ex.text);
        return text.append(rule.when == null ? "" : " when " + rule.when.text).append(";\n").toString();
    }

    /** Of each article with RULES how they are written. */
    private static TreeMap<Integer, String> written(int law, int day, int known) {
        TreeMap<Integer, String> found = new TreeMap<>();
        model.versions = laws.get(law);
        model.rulesInForce(day, known);
        for (Model.Version version : Model.inForce(laws.get(law), day, known).values()) {
            StringBuilder text = new StringBuilder();
            for (Model.Rule rule : version.rules) {
                text.append(written(rule == null || model.isAnnulled(rule, day) ? null : rule));
            }
            if (!version.rules.isEmpty()) {
                found.put(version.article, text.toString());
            }
        }
        return found;
    }

    private static void write() {
        int law = MAKER.next(2) * MAKER.next(4);
        int day = aDay();
        int known = aKnown();
        StringBuilder want = new StringBuilder();
        written(law, day, known).forEach((article, text) ->
                want.append("article ").append(address(article)).append(" {\n").append(text).append("}\n"));
        int size = CHECK.house.write(law, day, known);
        CHECK.due("write", size, want.length() > 12000 ? FULL : want.length());
        if (size >= 0) {
            CHECK.text("written", CHECK.out(size), want.toString());
            SEEN[1] += size > 0 ? 1 : 0;
        }
    }

    private static void differ() {
        int law = MAKER.next(2);
        int other = MAKER.next(2) * MAKER.next(4);
        int day = aDay();
        int day2 = MAKER.next(2) == 0 ? day : aDay();
        int known = aKnown();
        int known2 = MAKER.next(2) == 0 ? known : aKnown();
        TreeMap<Integer, String> mine = written(law, day, known);
        TreeMap<Integer, String> theirs = written(other, day2, known2);
        TreeSet<Integer> articles = new TreeSet<>(mine.keySet());
        articles.addAll(theirs.keySet());
        articles.removeIf(article -> mine.getOrDefault(article, "").equals(theirs.getOrDefault(article, "")));
        CHECK.due("differ", CHECK.house.differ(law, day, known, other, day2, known2), articles.size());
        int i = 0;
        for (int article : articles) {
            CHECK.due("differs " + i, CHECK.house.differs(i), article);
            i++;
        }
        CHECK.due("differs behind", CHECK.house.differs(i), NONE);
        SEEN[2] += i > 0 ? 1 : 0;
    }

    private static void atomsOf(Model.Part part, List<String> into) {
        if (part == null) {
            return;
        }
        if (part.op.equals("or") || part.op.equals("and") || part.op.equals("not")) {
            for (Model.Part one : part.under) {
                atomsOf(one, into);
            }
        } else if (!into.contains(part.text)) {
            into.add(part.text);
        }
    }

    private static boolean isTrue(Model.Part part, List<String> atoms, int way) {
        if (part == null) {
            return true;
        }
        switch (part.op) {
            case "or":
                return isTrue(part.under[0], atoms, way) | isTrue(part.under[1], atoms, way);
            case "and":
                return isTrue(part.under[0], atoms, way) & isTrue(part.under[1], atoms, way);
            case "not":
                return !isTrue(part.under[0], atoms, way);
            default:
                return (way >> atoms.indexOf(part.text)) % 2 == 1;
        }
    }

    /** How many of the RULES that except one (0: none) HOLD, 2 with a CONFLICT anywhere. */
    private static int hold(List<Model.Placed> all, int article, int number, List<String> atoms, int way) {
        int held = 0;
        for (Model.Placed rule : all) {
            if (rule.rule().article == article && rule.rule().number == number) {
                int over = hold(all, rule.article(), rule.number(), atoms, way);
                if (over >= CONFLICT) {
                    return CONFLICT;
                }
                held += over == 1 || isTrue(rule.rule().when, atoms, way) ? 1 : 0;
            }
        }
        return Math.min(held, CONFLICT);
    }

    private static int depth(List<Model.Placed> all, int article, int number) {
        int most = 0;
        for (Model.Placed rule : all) {
            if (rule.rule().article == article && rule.rule().number == number) {
                most = Math.max(most, 1 + depth(all, rule.article(), rule.number()));
            }
        }
        return most;
    }

    private static void gaps() {
        int law = MAKER.next(2) * MAKER.next(4);
        int term = MAKER.next(3) > 0 ? Check.KIDS : Maker.FACTS + MAKER.next(9);
        int day = aDay();
        model.versions = laws.get(law);
        List<Model.Placed> all = new ArrayList<>(model.rulesInForce(day, today));
        all.removeIf(placed -> placed.rule().name != term);
        List<String> atoms = new ArrayList<>();
        for (Model.Placed rule : all) {
            atomsOf(rule.rule().when, atoms);
        }
        int answer = CHECK.house.gaps(law, term, day);
        if (all.size() > 40 || atoms.size() > 8 || depth(all, NONE, 0) > 7) {
            CHECK.due("gaps", answer, FULL);
            SEEN[3]++;
            return;
        }
        int[] want = {atoms.size(), 0, 0, NONE, NONE};
        for (int way = 0; way < 1 << atoms.size(); way++) {
            int held = hold(all, NONE, 0, atoms, way);
            int sort = held == 0 ? 1 : held == 1 ? 0 : 2;
            if (sort > 0) {
                want[sort]++;
                want[sort + 2] = want[sort + 2] == NONE ? way : want[sort + 2];
            }
        }
        CHECK.due("gaps", answer, want[1] + want[2]);
        for (int what = 0; what < 5; what++) {
            CHECK.due("gap " + what, CHECK.house.gap(what), want[what]);
        }
        SEEN[4] += want[1] > 0 ? 1 : 0;
        SEEN[5] += want[2] > 0 ? 1 : 0;
    }

    /** The TERMS that are named for the same PERSON and DAY. */
    private static void termsIn(Model.Part part, Set<Integer> into) {
        if (part == null) {
            return;
        }
        boolean aside = part.op.equals("of") || part.op.equals("on") || part.op.equals("over");
        boolean set = Set.of("sum", "count", "any", "all", "greatest", "smallest").contains(part.op);
        if (part.op.equals("term")) {
            into.add(part.name);
        }
        for (int i = aside ? 1 : 0; i < part.under.length && !set; i++) {
            termsIn(part.under[i], into);
        }
    }

    private static void ring() {
        int law = MAKER.next(2) * MAKER.next(4);
        int day = aDay();
        model.versions = laws.get(law);
        List<Model.Placed> all = model.rulesInForce(day, today);
        int want = NONE;
        for (int term = 0; term < 20 && want == NONE; term++) {
            Set<Integer> reached = new HashSet<>();
            List<Integer> left = new ArrayList<>(List.of(term));
            while (!left.isEmpty()) {
                int from = left.remove(0);
                Set<Integer> next = new HashSet<>();
                for (Model.Placed rule : all) {
                    if (rule.rule().name == from) {
                        termsIn(rule.rule().ex, next);
                        termsIn(rule.rule().when, next);
                    }
                }
                next.removeAll(reached);
                reached.addAll(next);
                left.addAll(next);
            }
            want = reached.contains(term) ? term : NONE;
        }
        CHECK.due("ring", CHECK.house.ring(law, day), want);
        SEEN[want == NONE ? 6 : 7]++;
    }

    private static void counts() {
        for (int law = 0; law < 4; law++) {
            CHECK.due("versions of " + law, CHECK.house.count(8 + law), laws.get(law).size());
        }
        CHECK.due("parts", CHECK.house.count(15), parts);
        CHECK.due("annulments", CHECK.house.count(16), model.annulled.size());
        CHECK.due("rows", CHECK.house.count(17), rows);
        CHECK.due("rules", CHECK.house.count(18), rules);
    }
}
