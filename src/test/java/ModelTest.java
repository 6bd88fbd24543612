import java.util.ArrayList;
import java.util.Arrays;
import java.util.List;

/** Laws, facts and questions made by a fixed rule, and all that is reckoned of them held against a second reckoner. */
public final class ModelTest {
    private static final int LAST = Check.LAST;
    private static final long[][] ELSES = new long[20][];
    private static final Check CHECK = new Check();
    private static final Maker MAKER = new Maker(8);
    private static Model model;
    private static int today;
    private static List<List<Model.Version>> laws;
    private static final int[] OUTCOMES = new int[10];

    public static void main(String[] args) {
        ELSES[Check.FLAG] = new long[] {0, 0};
        ELSES[Check.N] = new long[] {0, 0};
        ELSES[Check.PAY] = new long[] {0, 0};
        ELSES[Check.GONE] = new long[] {2, 0};
        ELSES[Check.KIDS] = new long[] {-1, 0};
        ELSES[Check.SHARE] = new long[] {1, 5};
        for (int trial = 0; trial < 250; trial++) {
            begin();
            for (int turn = 0; turn < 4; turn++) {
                tell();
                legislate();
                for (int i = 0; i < 12; i++) {
                    ask();
                    reckon();
                }
                trials();
                today += MAKER.next(120);
                MAKER.today = today;
                CHECK.house.pass(today);
            }
        }
        for (int i = 0; i < OUTCOMES.length; i++) {
            CHECK.due("many end with " + i, i == 4 || i == 5 || OUTCOMES[i] > 10 ? 1 : OUTCOMES[i], 1);
        }
        CHECK.end("ModelTest");
    }

    private static void begin() {
        CHECK.furnished(4);
        model = new Model(Maker.KINDS, ELSES, Check.MATE, Check.WHOLE_TAX);
        model.people = 5;
        today = Check.TODAY;
        MAKER.today = today;
        laws = new ArrayList<>();
        for (int law = 0; law < 4; law++) {
            laws.add(new ArrayList<>());
        }
    }

    private static long[] valueOf(int kind) {
        switch (kind) {
            case Model.TRUTH:
                return new long[] {MAKER.next(2), 0};
            case Model.COUNT:
                return new long[] {MAKER.seldom() ? Integer.MIN_VALUE + MAKER.next(3) : MAKER.next(15) - 4, 0};
            case Model.MONEY:
                return new long[] {MAKER.seldom() ? 999999999000L + MAKER.next(1000) : MAKER.next(600000) - 100000, 0};
            case Model.RATE:
                return MAKER.next(2) == 0 ? new long[] {MAKER.next(5), 1} : new long[] {2 * MAKER.next(9) - 7, 1 << MAKER.next(19)};
            case Model.DATE:
                return new long[] {MAKER.dayNear(), 0};
            case Model.SPAN:
                return new long[] {MAKER.next(30) - 5, MAKER.next(90) - 20};
            case Model.REAL:
                return new long[] {Check.bits((MAKER.next(2000) - 300) / (double) (1 + MAKER.next(40))), 0};
            default:
                return new long[] {MAKER.next(5), 0};
        }
    }

    /** RECORDS, SUPPOSITIONS and that these are forgotten. */
    private static void tell() {
        StatuteHouse house = CHECK.house;
        for (int i = 0; i < 25; i++) {
            int person = MAKER.next(5);
            int name = MAKER.next(Maker.FACTS);
            long[] value = valueOf(Maker.KINDS[name]);
            int from = MAKER.often() ? Math.min(MAKER.dayNear(), LAST) : 0;
            int to = MAKER.often() ? LAST : Math.min(LAST, from + MAKER.next(200));
            boolean withdrawn = MAKER.seldom();
            int answer = withdrawn ? house.withdraw(person, name, from, to)
                    : house.fact(person, name, value[0], value[1], from, to);
            if (answer != -4) {
                model.records.add(new Model.Told(person, name, value[0], value[1], from, to, today, withdrawn));
                CHECK.due("records", answer, model.records.size());
            }
        }
        if (MAKER.seldom()) {
            CHECK.due("forget", house.forget(), model.supposed.size());
            model.supposed.clear();
        } else if (MAKER.seldom()) {
            suppose(MAKER.next(5), MAKER.next(Maker.FACTS));
        }
    }

    private static void suppose(int person, int name) {
        long[] value = valueOf(Maker.KINDS[name]);
        model.supposed.removeIf(s -> s.person() == person && s.name() == name);
        model.supposed.add(new Model.Told(person, name, value[0], value[1], 0, LAST, 0, false));
        CHECK.due("suppose", CHECK.house.suppose(person, name, value[0], value[1]), model.supposed.size());
    }

    /** A text for a LAW, now and then a DRAFT that is forked or adopted, or a RULE that is annulled. */
    private static void legislate() {
        StatuteHouse house = CHECK.house;
        int law = MAKER.often() ? 0 : 1 + MAKER.next(3);
        for (int i = 0; i < 3; i++) {
            StringBuilder text = new StringBuilder();
            Model.Version version = MAKER.version(laws.get(law), text);
            if (text.length() < 3900) {
                CHECK.due(text.toString(), CHECK.enact(law, text.toString()), 1);
                laws.get(law).add(version);
            }
        }
        if (MAKER.seldom()) {
            int draft = 1 + MAKER.next(3);
            CHECK.due("fork", house.fork(draft), laws.get(0).size());
            laws.set(draft, new ArrayList<>(laws.get(0)));
        }
        int article = Maker.ARTICLES[MAKER.next(Maker.ARTICLES.length)];
        int number = 1 + MAKER.next(4);
        int from = Math.max(0, Math.min(LAST, MAKER.dayNear()));
        model.versions = laws.get(0);
        Model.Version at = Model.inForce(model.versions, from, today).get(article);
        Model.Rule rule = at == null || number > at.rules.size() ? null : at.rules.get(number - 1);
        int answer = MAKER.seldom() ? house.annul(article, number, from) : -1;
        if (answer > 0) {
            CHECK.due("there is one to annul", rule == null ? 0 : 1, 1);
            model.annulled.add(new Model.Annulled(rule, from, today));
        }
    }

    private static int aLaw() {
        int law = MAKER.often() ? 0 : MAKER.next(4);
        model.versions = laws.get(law);
        return law;
    }

    private static int aDay() {
        return Math.max(0, Math.min(LAST, MAKER.dayNear()));
    }

    private static int aKnown() {
        return MAKER.often() ? today : Math.max(0, Math.min(LAST, today - 200 + MAKER.next(250)));
    }

    private static void ask() {
        Model.Part question = MAKER.part(MAKER.next(8), MAKER.next(5));
        int law = aLaw();
        int person = MAKER.next(5);
        int day = aDay();
        int known = aKnown();
        if (question.text.length() > 3900) {
            return;
        }
        model.steps = 0;
        long[] want = model.reckon(-1, question, person, day, known);
        CHECK.feed(question.text);
        same(question.text, CHECK.house.ask(law, person, day, known), question.kind, want);
    }

    private static void reckon() {
        int term = Maker.FACTS + MAKER.next(Maker.TERMS - Maker.FACTS);
        int law = aLaw();
        int person = MAKER.next(5);
        int day = aDay();
        int known = aKnown();
        model.steps = 0;
        long[] want = model.reckon(term, null, person, day, known);
        same(Maker.NAMES[term], CHECK.house.reckon(law, term, person, day, known), Maker.KINDS[term], want);
    }

    private static void same(String what, int answer, int kind, long[] want) {
        StatuteHouse house = CHECK.house;
        OUTCOMES[want == null ? model.failed[0] : 0]++;
        CHECK.due(what, answer, want == null ? -10 - model.failed[0] : kind);
        if (want != null) {
            CHECK.due(what + " first", house.value(0), want[0]);
            CHECK.due(what + " second", house.value(1), want[1]);
        }
        CHECK.due(what + " lines", house.count(13), model.lines.size());
        for (int i = 0; i < Math.min(300, model.lines.size()); i++) {
            for (int column = 0; column < 10; column++) {
                CHECK.due(what + " line " + i + ", " + column, house.why(i, column), model.lines.get(i)[column]);
            }
        }
        stepsAndFault(what);
    }

    private static void stepsAndFault(String what) {
        CHECK.due(what + " steps", CHECK.house.count(12), model.steps);
        for (int i = 0; i < 6; i++) {
            CHECK.due(what + " failed " + i, CHECK.house.failed(i), model.failed[i]);
        }
    }

    /** The calls that reckon one time after the other. */
    private static void trials() {
        changes();
        measure();
        forecast();
        solve();
        decide();
    }

    private static void changes() {
        int law = aLaw();
        int term = Maker.FACTS + MAKER.next(Maker.TERMS - Maker.FACTS);
        int person = MAKER.next(5);
        int from = Math.max(0, today - 200 + MAKER.next(300));
        int to = from + MAKER.next(40);
        int known = aKnown();
        model.steps = 0;
        List<long[]> want = new ArrayList<>();
        for (int day = from; day <= to; day++) {
            long[] value = model.reckon(term, null, person, day, known);
            long[] outcome = {value == null ? model.failed[0] : 0, value == null ? 0 : value[0], value == null ? 0 : value[1]};
            long[] last = want.isEmpty() ? null : want.get(want.size() - 1);
            if (last == null || !Arrays.equals(outcome, Arrays.copyOfRange(last, 1, 4))) {
                want.add(new long[] {day, outcome[0], outcome[1], outcome[2]});
            }
        }
        CHECK.due("changes", CHECK.house.changes(law, term, person, from, to, known), want.size());
        for (int i = 0; i < want.size(); i++) {
            for (int what = 0; what < 4; what++) {
                CHECK.due("change " + i + ", " + what, CHECK.house.changed(i, what), want.get(i)[what]);
            }
        }
        stepsAndFault("changes");
    }

    private static void measure() {
        int law = MAKER.next(4);
        int other = MAKER.next(5) - 1;
        int term = MAKER.next(2) == 0 ? Check.TAX : Check.WHOLE_TAX;
        int day = aDay();
        model.steps = 0;
        long[] want = new long[12];
        long least = Long.MAX_VALUE;
        long most = Long.MIN_VALUE;
        for (int person = 1; person < 5; person++) {
            model.versions = laws.get(law);
            long[] mine = model.reckon(term, null, person, day, today);
            model.versions = laws.get(Math.max(other, 0));
            long[] theirs = mine == null || other < 0 ? mine : model.reckon(term, null, person, day, today);
            if (theirs == null) {
                want[1]++;
                continue;
            }
            want[0]++;
            want[2] += mine[0];
            least = Math.min(least, mine[0]);
            most = Math.max(most, mine[0]);
            want[8] += theirs[0] > mine[0] ? 1 : 0;
            want[9] += theirs[0] < mine[0] ? 1 : 0;
            want[10] += Math.max(0, theirs[0] - mine[0]);
            want[11] += Math.max(0, mine[0] - theirs[0]);
        }
        want[3] = want[0] == 0 ? 0 : least;
        want[4] = want[0] == 0 ? 0 : most;
        CHECK.due("measure", CHECK.house.measure(law, other, term, day), want[0]);
        for (int what : new int[] {0, 1, 2, 3, 4, 8, 9, 10, 11}) {
            CHECK.due("measured " + what, CHECK.house.measured(what), want[what]);
        }
        stepsAndFault("measure");
    }

    private static void forecast() {
        int law = aLaw();
        int term = MAKER.next(2) == 0 ? Check.TAX : Check.WHOLE_TAX;
        int first = (int) Model.dayOf(Model.dateOf(Math.max(31, today - 100)).withDayOfMonth(1));
        int months = 1 + MAKER.next(4);
        model.steps = 0;
        CHECK.due("forecast", CHECK.house.forecast(law, term, first, months), months);
        for (int month = 0; month < months; month++) {
            int day = (int) Model.dayOf(Model.dateOf(first).plusMonths(month));
            long sum = 0;
            int many = 0;
            for (int person = 1; person < 5; person++) {
                long[] value = model.reckon(term, null, person, day, today);
                sum += value == null ? 0 : value[0];
                many += value == null ? 0 : 1;
            }
            CHECK.due("sum of month " + month, CHECK.house.forecasted(month, 0), sum);
            CHECK.due("how many of month " + month, CHECK.house.forecasted(month, 1), many);
        }
        stepsAndFault("forecast");
    }

    private static void solve() {
        int law = aLaw();
        int person = MAKER.next(5);
        int day = aDay();
        int name = MAKER.next(2) == 0 ? Check.N : Check.PAY;
        long low = MAKER.next(200) - 100;
        long high = low + MAKER.next(1000);
        List<Model.Told> before = new ArrayList<>(model.supposed);
        model.supposed.removeIf(s -> s.person() == person && s.name() == name);
        model.steps = 0;
        long least = low;
        long most = high;
        long want = 2;
        while (want == 2) {
            boolean last = least == most;
            long tried = last ? least : Math.floorDiv(least + most, 2);
            model.supposed.add(new Model.Told(person, name, tried, 0, 0, LAST, 0, false));
            long[] value = model.reckon(Check.YES, null, person, day, today);
            model.supposed.remove(model.supposed.size() - 1);
            if (value == null) {
                want = -10 - model.failed[0];
            } else if (last) {
                want = value[0];
            } else if (value[0] == 1) {
                most = tried;
            } else {
                least = tried + 1;
            }
        }
        model.supposed.clear();
        model.supposed.addAll(before);
        CHECK.due("solve", CHECK.house.solve(law, Check.YES, person, day, name, low, high), want);
        if (want >= 0) {
            CHECK.due("solved", CHECK.house.solved(), least);
        }
        stepsAndFault("solve");
    }

    private static void decide() {
        int person = MAKER.next(5);
        int term = MAKER.next(2) == 0 ? Check.TAX : Check.WHOLE_TAX;
        int first = (int) Model.dayOf(Model.dateOf(Math.max(31, today - 60)).withDayOfMonth(1));
        int months = 1 + MAKER.next(4);
        model.versions = laws.get(0);
        model.supposing = false;
        model.steps = 0;
        long[] amounts = new long[months];
        long want = CHECK.house.count(5);
        for (int month = 0; month < months && want >= 0; month++) {
            int day = (int) Model.dayOf(Model.dateOf(first).plusMonths(month));
            long[] value = model.reckon(term, null, person, day, today);
            want = value == null ? -10 - model.failed[0] : want;
            amounts[month] = value == null ? 0 : value[0];
        }
        model.supposing = true;
        int bookings = CHECK.house.count(6);
        CHECK.due("decide", CHECK.house.decide(person, term, first, months), want);
        for (int month = 0; month < months && want >= 0; month++) {
            CHECK.due("amount " + month, CHECK.house.amount((int) want, month), amounts[month]);
            CHECK.due("booked " + month, CHECK.house.booking(bookings + month, 3), amounts[month]);
        }
        CHECK.due("bookings", CHECK.house.count(6), want < 0 ? bookings : bookings + months);
        stepsAndFault("decide");
    }
}
