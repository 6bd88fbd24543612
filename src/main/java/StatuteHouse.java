import java.util.Arrays;

/**
 * A house of law: names, statutes as texts, facts, reckoning with reasons, decisions and their money, drafts, and
 * looks at the laws themselves. What each call answers stands in the document, promise by promise; the classes inside
 * hold one matter each. All rows are made with the object and used again, so that calls make no objects.
 */
public final class StatuteHouse {
    /** There is none. */
    public static final int NONE = -1;
    /** A number that can't be. */
    public static final int RANGE = -2;
    /** Not as things are. */
    public static final int STATE = -3;
    /** No room. */
    public static final int FULL = -4;

    private static final int LAST_DAY = 65535;
    private static final long MOST_MONEY = 1000000000000L;
    private static final long MOST_OF_RATE = 1000000L;
    private static final int MOST_MONTHS = 2400;
    private static final int MOST_NAMES = 40;
    private static final int MOST_PEOPLE = 30;
    private static final int LAWS = 4;

    /** The KINDS of VALUES. */
    private static final int TRUTH = 0;
    private static final int COUNT = 1;
    private static final int MONEY = 2;
    private static final int RATE = 3;
    private static final int DATE = 4;
    private static final int SPAN = 5;
    private static final int REAL = 6;
    private static final int PERSON = 7;

    /** What a NAME is. */
    private static final int FACT = 0;
    private static final int TERM = 1;
    private static final int TABLE = 2;
    private static final int JOINING = 3;

    /** FAULTS of a text. */
    private static final int T_SYNTAX = 1;
    private static final int T_NAME = 2;
    private static final int T_RANGE = 3;
    private static final int T_ROOM = 4;
    private static final int T_KIND = 5;
    private static final int T_HEIGHT = 6;
    private static final int T_LACK = 7;

    /** FAULTS of a reckoning. */
    private static final int F_NONE = 1;
    private static final int F_CONFLICT = 2;
    private static final int F_RING = 3;
    private static final int F_DEEP = 4;
    private static final int F_LONG = 5;
    private static final int F_UNKNOWN = 6;
    private static final int F_ZERO = 7;
    private static final int F_OVER = 8;
    private static final int F_NOREAL = 9;

    /** Codes of TOKENS: these, the signs by their bytes, and from FIRST_WORD on the RESERVED words as in WORDS. */
    private static final int END = 0;
    private static final int BAD = 1;
    private static final int NUMBER = 2;
    private static final int MONEYS = 3;
    private static final int DATES = 4;
    private static final int WORD = 5;
    private static final int AT_MOST = 6;
    private static final int AT_LEAST = 7;
    /** Codes of PARTS are those of their TOKENS, but for these, whose TOKENS stand for more than one thing. */
    private static final int MINUS = 8;
    private static final int CONSTANT = 9;
    private static final int FACT_NAME = 10;
    private static final int TERM_NAME = 11;

    /** Columns of PARTS. */
    private static final int OP = 0;
    private static final int KIND = 1;
    private static final int NAMED = 2;
    private static final int LEFT = 3;
    private static final int RIGHT = 4;
    private static final int THIRD = 5;
    private static final int HEIGHT = 6;

    /** Columns of RULES; EXCEPTED is NONE of one that excepts none, EX is NONE of one that tells a TABLE. */
    private static final int OF_NAME = 0;
    private static final int EXCEPTED = 1;
    private static final int EXCEPTED_NUMBER = 2;
    private static final int EX = 3;
    private static final int WHEN = 4;
    private static final int ROW_FROM = 5;
    private static final int ROW_COUNT = 6;

    /** Columns of VERSIONS. */
    private static final int ARTICLE = 0;
    private static final int FROM = 1;
    private static final int RULE_COUNT = 2;

    private static final String WORDS = "add all amend and any article between cents count date day dayof days daysto down due easter else even except fact false first friday from fullmonths fullyears greatest has if is joins last least level minus monday money monthof months most near not of on or over person plus put rate real rem root saturday self size slices smallest span state strike sum sunday table term thursday together true truth tuesday until up void wednesday weekday when whole withdrawn working yearof years ";
    private static final int WORD_COUNT = 82;
    private static final int FIRST_WORD = 128;
    private static final int W_ADD = 128;
    private static final int W_ALL = 129;
    private static final int W_AMEND = 130;
    private static final int W_AND = 131;
    private static final int W_ANY = 132;
    private static final int W_ARTICLE = 133;
    private static final int W_BETWEEN = 134;
    private static final int W_CENTS = 135;
    private static final int W_COUNT = 136;
    private static final int W_DATE = 137;
    private static final int W_DAY = 138;
    private static final int W_DAYOF = 139;
    private static final int W_DAYS = 140;
    private static final int W_DAYSTO = 141;
    private static final int W_DOWN = 142;
    private static final int W_DUE = 143;
    private static final int W_EASTER = 144;
    private static final int W_ELSE = 145;
    private static final int W_EVEN = 146;
    private static final int W_EXCEPT = 147;
    private static final int W_FACT = 148;
    private static final int W_FALSE = 149;
    private static final int W_FIRST = 150;
    private static final int W_FRIDAY = 151;
    private static final int W_FROM = 152;
    private static final int W_FULLMONTHS = 153;
    private static final int W_FULLYEARS = 154;
    private static final int W_GREATEST = 155;
    private static final int W_HAS = 156;
    private static final int W_IF = 157;
    private static final int W_IS = 158;
    private static final int W_JOINS = 159;
    private static final int W_LAST = 160;
    private static final int W_LEAST = 161;
    private static final int W_LEVEL = 162;
    private static final int W_MINUS = 163;
    private static final int W_MONDAY = 164;
    private static final int W_MONEY = 165;
    private static final int W_MONTHOF = 166;
    private static final int W_MONTHS = 167;
    private static final int W_MOST = 168;
    private static final int W_NEAR = 169;
    private static final int W_NOT = 170;
    private static final int W_OF = 171;
    private static final int W_ON = 172;
    private static final int W_OR = 173;
    private static final int W_OVER = 174;
    private static final int W_PERSON = 175;
    private static final int W_PLUS = 176;
    private static final int W_PUT = 177;
    private static final int W_RATE = 178;
    private static final int W_REAL = 179;
    private static final int W_REM = 180;
    private static final int W_ROOT = 181;
    private static final int W_SATURDAY = 182;
    private static final int W_SELF = 183;
    private static final int W_SIZE = 184;
    private static final int W_SLICES = 185;
    private static final int W_SMALLEST = 186;
    private static final int W_SPAN = 187;
    private static final int W_STATE = 188;
    private static final int W_STRIKE = 189;
    private static final int W_SUM = 190;
    private static final int W_SUNDAY = 191;
    private static final int W_TABLE = 192;
    private static final int W_TERM = 193;
    private static final int W_THURSDAY = 194;
    private static final int W_TOGETHER = 195;
    private static final int W_TRUE = 196;
    private static final int W_TRUTH = 197;
    private static final int W_TUESDAY = 198;
    private static final int W_UNTIL = 199;
    private static final int W_UP = 200;
    private static final int W_VOID = 201;
    private static final int W_WEDNESDAY = 202;
    private static final int W_WEEKDAY = 203;
    private static final int W_WHEN = 204;
    private static final int W_WHOLE = 205;
    private static final int W_WITHDRAWN = 206;
    private static final int W_WORKING = 207;
    private static final int W_YEAROF = 208;
    private static final int W_YEARS = 209;

    private final Calendar calendar;
    private final Names names;
    private final People people;
    private final Laws laws;
    private final Tape tape;
    private final Reader reader;
    private final Reckoner reckoner;
    private final Ledger ledger;
    private final Study study;
    private final Writer writer;
    /** The VALUE of the latest question or reckoning that gave one. */
    private long answerA;
    private long answerB;

    public StatuteHouse() {
        calendar = new Calendar();
        names = new Names();
        Values values = new Values(calendar);
        people = new People(names, values);
        laws = new Laws();
        tape = new Tape();
        reader = new Reader(tape, names, people, laws, calendar);
        reckoner = new Reckoner(names, people, laws, values);
        ledger = new Ledger(calendar, reckoner);
        study = new Study(names, people, laws, values, reckoner);
        writer = new Writer(names, laws, reckoner, tape);
    }

    // ---- texts

    public int feed(int a, int b, int c, int d, int e) {
        if (tape.size + 20 > Tape.MOST_BYTES) {
            return FULL;
        }
        tape.put(a);
        tape.put(b);
        tape.put(c);
        tape.put(d);
        tape.put(e);
        return tape.size;
    }

    public int end(int n) {
        if (n < 0 || n > tape.size) {
            return NONE;
        }
        tape.size = n;
        return n;
    }

    public int names() {
        tape.scan();
        return reader.readNames();
    }

    public int holidays() {
        tape.scan();
        return reader.readHolidays();
    }

    public int enact(int law) {
        if (!Laws.isLaw(law)) {
            return RANGE;
        }
        tape.scan();
        return reader.readLaw(law);
    }

    public int ask(int law, int person, int day, int known) {
        if (!canReckon(law, person, day, known)) {
            return RANGE;
        }
        tape.scan();
        int before = laws.parts;
        int part = reader.readQuestion();
        if (part < 0) {
            laws.parts = before;
            return NONE;
        }
        reckoner.start(true, true);
        int fault = reckoner.reckonQuestion(part, law, person, day, known);
        int kind = laws.part[KIND][part];
        laws.parts = before;
        return answered(fault, kind);
    }

    public int facts() {
        tape.scan();
        return reader.readFacts();
    }

    public int fault(int what) {
        if (what == 0) {
            return tape.faultKind;
        }
        return what == 1 ? tape.faultPlace : NONE;
    }

    public int name(int name, int what) {
        if (!names.isThere(name)) {
            return NONE;
        }
        switch (what) {
            case 0:
                return names.sort[name];
            case 1:
                return names.kind[name];
            case 2:
                return names.mode[name];
            case 3:
                return names.length[name];
            default:
                return what >= 10 && what - 10 < names.length[name] ? names.letters[name][what - 10] : NONE;
        }
    }

    // ---- time, people, facts

    public int pass(int day) {
        if (!Calendar.isDay(day) || day < calendar.today) {
            return RANGE;
        }
        calendar.today = day;
        return ledger.passTime();
    }

    public int due(int day, int months, int days) {
        if (!Calendar.isDay(day) || !Values.isSpan(months, days)) {
            return RANGE;
        }
        int found = calendar.dueFrom(Calendar.shift(day, months, days));
        return found < 0 ? FULL : found;
    }

    public int person() {
        if (people.size >= MOST_PEOPLE) {
            return FULL;
        }
        people.size++;
        return people.size - 1;
    }

    public int weight(int person, int bits) {
        if (!people.isThere(person)) {
            return NONE;
        }
        return people.weigh(person, bits) ? 1 : RANGE;
    }

    public int fact(int person, int name, long a, long b, int from, int to) {
        if (!people.isThere(person) || !names.isFact(name)) {
            return NONE;
        }
        if (!people.takes(names.kind[name], a, b) || !areDays(from, to)) {
            return RANGE;
        }
        if (people.isFull(person, name)) {
            return FULL;
        }
        people.note(person, name, from, to, calendar.today, false);
        return people.records;
    }

    public int withdraw(int person, int name, int from, int to) {
        if (!people.isThere(person) || !names.isFact(name)) {
            return NONE;
        }
        if (!areDays(from, to)) {
            return RANGE;
        }
        if (people.isFull(person, name)) {
            return FULL;
        }
        people.note(person, name, from, to, calendar.today, true);
        return people.records;
    }

    public int suppose(int person, int name, long a, long b) {
        if (!people.isThere(person) || !names.isFact(name)) {
            return NONE;
        }
        if (!people.takes(names.kind[name], a, b)) {
            return RANGE;
        }
        return people.supposeTaken(person, name) ? people.suppositions : FULL;
    }

    public int forget() {
        return people.forgetAll();
    }

    // ---- reckoning

    public int reckon(int law, int term, int person, int day, int known) {
        if (!names.isTerm(term)) {
            return NONE;
        }
        if (!canReckon(law, person, day, known)) {
            return RANGE;
        }
        reckoner.start(true, true);
        return answered(reckoner.reckonTerm(law, term, person, day, known), names.kind[term]);
    }

    public long value(int what) {
        if (what == 0) {
            return answerA;
        }
        return what == 1 ? answerB : 0;
    }

    public int failed(int what) {
        return what >= 0 && what < reckoner.failure.length ? reckoner.failure[what] : NONE;
    }

    public long why(int i, int what) {
        if (i < 0 || i >= reckoner.keptLines() || what < 0 || what > 9) {
            return NONE;
        }
        return what < 8 ? reckoner.line[what][i] : reckoner.lineValue[what - 8][i];
    }

    public int tell() {
        return writer.tellReasons();
    }

    public int changes(int law, int term, int person, int from, int to, int known) {
        if (!names.isTerm(term)) {
            return NONE;
        }
        if (!canReckon(law, person, from, known) || !areDays(from, to) || to - from > 399) {
            return RANGE;
        }
        return study.findChanges(law, term, person, from, to, known);
    }

    public long changed(int i, int what) {
        if (i < 0 || i >= study.changes || what < 0 || what > 3) {
            return NONE;
        }
        return study.change[what][i];
    }

    public int solve(int law, int term, int person, int day, int name, long low, long high) {
        if (!names.isTermOf(term, TRUTH) || !people.isThere(person) || !names.isFact(name)) {
            return NONE;
        }
        int kind = names.kind[name];
        if (kind != COUNT && kind != MONEY) {
            return NONE;
        }
        if (!canReckon(law, person, day, day) || !people.takes(kind, low, 0) || !people.takes(kind, high, 0)
                || low > high) {
            return RANGE;
        }
        reckoner.start(false, true);
        people.presume(person, name);
        int answer = study.halve(law, term, person, day, calendar.today, low, high);
        people.presumeNoMore(person, name);
        return answer;
    }

    public long solved() {
        return study.solution;
    }

    // ---- decisions

    public int terms(int limit, int n, int d) {
        if (limit < 0 || limit > 600 || n < 0 || !people.takes(RATE, n, d)) {
            return RANGE;
        }
        ledger.limit = limit;
        ledger.interestOver = people.a;
        ledger.interestUnder = people.b;
        return 1;
    }

    public int decide(int person, int term, int first, int months) {
        if (!people.isThere(person) || !names.isTermOf(term, MONEY)) {
            return NONE;
        }
        return areFirsts(first, months, Ledger.MOST_DECIDED) ? ledger.takeDecision(person, term, first, months) : RANGE;
    }

    public int object(int decision) {
        if (!ledger.isDecision(decision)) {
            return NONE;
        }
        return ledger.objectTo(decision) ? 1 : STATE;
    }

    public int answer(int decision, boolean granted) {
        if (!ledger.isDecision(decision)) {
            return NONE;
        }
        if (!ledger.isObjected(decision)) {
            return STATE;
        }
        int changed = granted ? ledger.takeAnew(decision, true) : 0;
        if (changed >= 0) {
            ledger.endWith(decision);
        }
        return changed;
    }

    public int revise(int decision) {
        if (!ledger.isDecision(decision)) {
            return NONE;
        }
        return ledger.isObjected(decision) ? STATE : ledger.takeAnew(decision, false);
    }

    public int decision(int decision, int what) {
        return ledger.isDecision(decision) && what >= 0 && what <= 6 ? ledger.decision[what][decision] : NONE;
    }

    public long amount(int decision, int month) {
        if (!ledger.isDecision(decision) || !ledger.hasMonth(decision, month)) {
            return Long.MIN_VALUE;
        }
        return ledger.amounts[decision][month];
    }

    public int dues(int fee, int bar) {
        if (fee < 0 || fee > 100000 || bar < 1 || bar > 600) {
            return RANGE;
        }
        ledger.fee = fee;
        ledger.bar = bar;
        return 1;
    }

    public long pay(int person, long cents) {
        if (!people.isThere(person)) {
            return NONE;
        }
        if (cents < 1 || cents > MOST_MONEY) {
            return RANGE;
        }
        return ledger.payIn(person, cents);
    }

    public int remind(int person) {
        return people.isThere(person) ? ledger.remindOf(person) : NONE;
    }

    public long credit(int person) {
        return people.isThere(person) ? ledger.credits[person] : NONE;
    }

    public long booking(int i, int what) {
        return ledger.tellBooking(i, what);
    }

    public long account(int person, int day) {
        return people.isThere(person) ? ledger.sumUntil(person, day) : Long.MIN_VALUE;
    }

    // ---- drafts

    public int fork(int draft) {
        return Laws.isDraft(draft) ? laws.copyTo(draft) : RANGE;
    }

    public int adopt(int draft) {
        return Laws.isDraft(draft) ? laws.bringHome(draft, calendar.today) : RANGE;
    }

    public int measure(int law, int other, int term, int day) {
        if (!names.isTermOf(term, MONEY)) {
            return NONE;
        }
        if (!Laws.isLaw(law) || (other != NONE && !Laws.isLaw(other)) || !Calendar.isDay(day)) {
            return RANGE;
        }
        return study.tryOnAll(law, other, term, day, calendar.today);
    }

    public long measured(int what) {
        return what >= 0 && what < study.measures.length ? study.measures[what] : 0;
    }

    public int forecast(int law, int term, int first, int months) {
        if (!names.isTermOf(term, MONEY)) {
            return NONE;
        }
        if (!Laws.isLaw(law) || !areFirsts(first, months, Study.MOST_FORECAST)) {
            return RANGE;
        }
        return study.lookAhead(law, term, first, months, calendar.today);
    }

    public long forecasted(int k, int what) {
        if (k < 0 || k >= study.monthsAhead || what < 0 || what > 1) {
            return 0;
        }
        return study.ahead[what][k];
    }

    // ---- looking at laws

    public int annul(int article, int number, int from) {
        if (!Calendar.isDay(from)) {
            return RANGE;
        }
        int rule = laws.ruleInForce(article, number, from, calendar.today);
        if (rule < 0) {
            return NONE;
        }
        return laws.annulRule(rule, from, calendar.today) ? laws.annulments : FULL;
    }

    public int gaps(int law, int term, int day) {
        if (!names.isTerm(term)) {
            return NONE;
        }
        if (!Laws.isLaw(law) || !Calendar.isDay(day)) {
            return RANGE;
        }
        return study.findGaps(law, term, day, calendar.today);
    }

    public int gap(int what) {
        return what >= 0 && what < study.gap.length ? study.gap[what] : NONE;
    }

    public int ring(int law, int day) {
        if (!Laws.isLaw(law) || !Calendar.isDay(day)) {
            return RANGE;
        }
        return study.findRing(law, day, calendar.today);
    }

    public int write(int law, int day, int known) {
        if (!canLook(law, day, known)) {
            return RANGE;
        }
        return writer.writeLaw(law, day, known);
    }

    public int out(int i) {
        return i >= 0 && i < writer.size ? writer.text[i] : NONE;
    }

    public int differ(int law, int day, int known, int other, int day2, int known2) {
        if (!canLook(law, day, known) || !canLook(other, day2, known2)) {
            return RANGE;
        }
        writer.pickSide(0, law, day, known);
        writer.pickSide(1, other, day2, known2);
        return writer.compareSides();
    }

    public int differs(int i) {
        return i >= 0 && i < writer.differences ? writer.different[i] : NONE;
    }

    public int count(int what) {
        switch (what) {
            case 0:
                return calendar.today;
            case 1:
                return names.size;
            case 2:
                return people.size;
            case 3:
                return people.records;
            case 4:
                return people.suppositions;
            case 5:
                return ledger.decisions;
            case 6:
                return ledger.bookings;
            case 7:
                return calendar.holidays;
            case 8:
            case 9:
            case 10:
            case 11:
                return laws.size[what - 8];
            case 12:
                return reckoner.steps;
            case 13:
                return reckoner.lines;
            case 14:
                return tape.size;
            case 15:
                return laws.parts;
            case 16:
                return laws.annulments;
            case 17:
                return laws.rows;
            case 18:
                return laws.rules;
            default:
                return NONE;
        }
    }

    private boolean canReckon(int law, int person, int day, int known) {
        return canLook(law, day, known) && people.isThere(person);
    }

    private static boolean canLook(int law, int day, int known) {
        return Laws.isLaw(law) && Calendar.isDay(day) && Calendar.isDay(known);
    }

    private static boolean areDays(int from, int to) {
        return Calendar.isDay(from) && Calendar.isDay(to) && from <= to;
    }

    private static boolean areFirsts(int first, int months, int most) {
        if (!Calendar.isDay(first) || months < 1 || months > most) {
            return false;
        }
        int month = Calendar.monthOf(first);
        return Calendar.firstOf(month) == first && Calendar.firstOf(month + months - 1) <= LAST_DAY;
    }

    private int answered(int fault, int kind) {
        if (fault != 0) {
            return -10 - fault;
        }
        answerA = reckoner.a;
        answerB = reckoner.b;
        return kind;
    }

    /** DAYS, months (numbered from the year 0 on, twelve a year) and HOLIDAYS; TODAY stands here, as all look at it. */
    private static final class Calendar {
        static final int MOST_HOLIDAYS = 20;
        /** Sorts of HOLIDAYS. */
        static final int FIXED = 0;
        static final int EASTER = 1;
        static final int FIRST_OF = 2;
        static final int LAST_OF = 3;
        private static final int FIRST_YEAR = 1900;
        private static final int LAST_YEAR = 2079;

        int today = 36524;
        int holidays;
        /** Of each HOLIDAY that is being told: its sort, a number (day, DAYS from Easter, weekday from 0), a month. */
        final int[][] told = new int[3][MOST_HOLIDAYS];
        /** A bit for each DAY that is a HOLIDAY. */
        private final long[] closed = new long[(LAST_DAY + 1) / 64];

        static boolean isDay(int day) {
            return day >= 0 && day <= LAST_DAY;
        }

        /** The DAY (perhaps beyond those that there are) of a month's first. */
        static int firstOf(int month) {
            int year = Math.floorDiv(month, 12);
            int ofYear = month - 12 * year;
            if (ofYear < 2) {
                year--;
            }
            int era = Math.floorDiv(year, 400);
            int yearOfEra = year - 400 * era;
            int dayOfYear = (153 * (ofYear < 2 ? ofYear + 10 : ofYear - 2) + 2) / 5;
            return era * 146097 + yearOfEra * 365 + yearOfEra / 4 - yearOfEra / 100 + dayOfYear - 693901;
        }

        static int monthOf(int day) {
            int since = day + 693901;
            int era = Math.floorDiv(since, 146097);
            int dayOfEra = since - 146097 * era;
            int yearOfEra = (dayOfEra - dayOfEra / 1460 + dayOfEra / 36524 - dayOfEra / 146096) / 365;
            int dayOfYear = dayOfEra - (365 * yearOfEra + yearOfEra / 4 - yearOfEra / 100);
            int fromMarch = (5 * dayOfYear + 2) / 153;
            return (era * 400 + yearOfEra) * 12 + fromMarch + 2;
        }

        /** The DAY of a year, month and day as people write them, or NONE. */
        static int dayOf(int year, int month, int day) {
            if (year < FIRST_YEAR || year > LAST_YEAR || month < 1 || month > 12 || day < 1) {
                return NONE;
            }
            int first = firstOf(year * 12 + month - 1);
            if (day > firstOf(year * 12 + month) - first) {
                return NONE;
            }
            int found = first + day - 1;
            return found <= LAST_DAY ? found : NONE;
        }

        /** A DAY and a SPAN, or NONE when it is OVER. */
        static int shift(int day, int months, int days) {
            int from = monthOf(day);
            int to = from + months;
            if (to < 1800 * 12 || to > 2200 * 12 + 11) {
                return NONE;
            }
            int first = firstOf(to);
            int inMonth = Math.min(day - firstOf(from), firstOf(to + 1) - first - 1);
            int found = first + inMonth + days;
            return isDay(found) ? found : NONE;
        }

        static int fullMonths(int from, int to) {
            int earlier = Math.min(from, to);
            int later = Math.max(from, to);
            int started = monthOf(earlier);
            int last = monthOf(later);
            int first = firstOf(last);
            int inMonth = Math.min(earlier - firstOf(started), firstOf(last + 1) - first - 1);
            int many = last - started - (first + inMonth > later ? 1 : 0);
            return from > to ? -many : many;
        }

        boolean isWorking(int day) {
            return day >= 0 && day <= LAST_DAY && day % 7 < 5 && (closed[day >> 6] >>> (day & 63) & 1) == 0;
        }

        /** DUE of a DAY, or NONE when it is OVER, as when the DAY was. */
        int dueFrom(int day) {
            if (day < 0) {
                return NONE;
            }
            for (int at = day; at <= LAST_DAY; at++) {
                if (at % 7 < 5 && (closed[at >> 6] >>> (at & 63) & 1) == 0) {
                    return at;
                }
            }
            return NONE;
        }

        /** The first of those told are the HOLIDAYS, in place of those before. */
        void close(int n) {
            Arrays.fill(closed, 0L);
            holidays = n;
            for (int i = 0; i < n; i++) {
                for (int year = FIRST_YEAR; year <= LAST_YEAR; year++) {
                    int day = holidayIn(i, year);
                    if (isDay(day) && day >= firstOf(year * 12) && day < firstOf(year * 12 + 12)) {
                        closed[day >> 6] |= 1L << (day & 63);
                    }
                }
            }
        }

        private int holidayIn(int i, int year) {
            int number = told[1][i];
            int month = year * 12 + told[2][i] - 1;
            switch (told[0][i]) {
                case FIXED:
                    return dayOf(year, told[2][i], number);
                case EASTER:
                    return easterOf(year) + number;
                case FIRST_OF:
                    int first = firstOf(month);
                    return first + Math.floorMod(number - first, 7);
                default:
                    int last = firstOf(month + 1) - 1;
                    return last - Math.floorMod(last - number, 7);
            }
        }

        private static int easterOf(int year) {
            int a = year % 19;
            int b = year / 100;
            int c = year % 100;
            int h = (19 * a + b - b / 4 - (b - (b + 8) / 25 + 1) / 3 + 15) % 30;
            int l = (32 + 2 * (b % 4) + 2 * (c / 4) - h - c % 4) % 7;
            int m = h + l - 7 * ((a + 11 * h + 22 * l) / 451) + 114;
            return firstOf(year * 12 + m / 31 - 1) + m % 31;
        }
    }

    /**
     * VALUES and what is done with them. What comes out stands in a and b; the methods that may fail answer a FAULT,
     * or 0. A COUNT is taken as a RATE over 1 wherever the two may be mixed.
     */
    private static final class Values {
        private static final long SIGN = Long.MIN_VALUE;
        private static final long HIDDEN = 1L << 52;

        private final Calendar calendar;
        long a;
        long b;

        Values(Calendar calendar) {
            this.calendar = calendar;
        }

        static boolean isSpan(long months, long days) {
            return Math.abs(months) <= MOST_MONTHS && Math.abs(days) <= LAST_DAY;
        }

        private static boolean isFraction(int kind) {
            return kind == COUNT || kind == RATE;
        }

        private static boolean isSummed(int kind) {
            return kind == COUNT || kind == RATE || kind == MONEY || kind == REAL;
        }

        private static boolean isOrdered(int kind) {
            return kind == DATE || isSummed(kind);
        }

        /** The KIND of a PART over one, NONE if there is none such. */
        static int kindOfOne(int op, int kind) {
            switch (op) {
                case W_NOT:
                case W_ANY:
                case W_ALL:
                    return kind == TRUTH ? TRUTH : NONE;
                case W_COUNT:
                    return kind == TRUTH ? COUNT : NONE;
                case MINUS:
                    return isSummed(kind) || kind == SPAN ? kind : NONE;
                case W_SIZE:
                case W_SUM:
                    return isSummed(kind) ? kind : NONE;
                case W_GREATEST:
                case W_SMALLEST:
                    return isOrdered(kind) ? kind : NONE;
                case W_FIRST:
                case W_LAST:
                case W_DUE:
                    return kind == DATE ? DATE : NONE;
                case W_YEAROF:
                case W_MONTHOF:
                case W_DAYOF:
                case W_WEEKDAY:
                    return kind == DATE ? COUNT : NONE;
                case W_WORKING:
                    return kind == DATE ? TRUTH : NONE;
                case W_REAL:
                    return isFraction(kind) || kind == MONEY ? REAL : NONE;
                case W_ROOT:
                    return kind == REAL ? REAL : NONE;
                case W_CENTS:
                    return kind == REAL ? MONEY : NONE;
                case W_WHOLE:
                    return kind == RATE || kind == REAL ? COUNT : NONE;
                default:
                    return NONE;
            }
        }

        /** The KIND of a PART over two, NONE if there is none such. */
        static int kindOfTwo(int op, int left, int right) {
            boolean alike = left == right;
            boolean exact = isFraction(left) && isFraction(right);
            switch (op) {
                case W_OR:
                case W_AND:
                    return alike && left == TRUTH ? TRUTH : NONE;
                case '=':
                case '#':
                    return alike || exact ? TRUTH : NONE;
                case '<':
                case '>':
                case AT_MOST:
                case AT_LEAST:
                    return exact || alike && isOrdered(left) ? TRUTH : NONE;
                case '+':
                case '-':
                    return kindOfSum(op, left, right);
                case '*':
                case '/':
                case W_REM:
                    return kindOfProduct(op, left, right);
                case W_OF:
                    return right == PERSON ? left : NONE;
                case W_ON:
                    return right == DATE ? left : NONE;
                case W_LEAST:
                case W_MOST:
                    return alike && isOrdered(left) ? left : NONE;
                case W_UP:
                case W_DOWN:
                case W_NEAR:
                case W_EVEN:
                    return alike && left == MONEY ? MONEY : NONE;
                case W_FULLMONTHS:
                case W_FULLYEARS:
                case W_DAYSTO:
                    return alike && left == DATE ? COUNT : NONE;
                default:
                    return NONE;
            }
        }

        private static int kindOfSum(int op, int left, int right) {
            if (left == DATE) {
                if (right == DATE) {
                    return op == '-' ? SPAN : NONE;
                }
                return right == SPAN ? DATE : NONE;
            }
            if (left == right) {
                return isSummed(left) || left == SPAN ? left : NONE;
            }
            return isFraction(left) && isFraction(right) ? RATE : NONE;
        }

        private static int kindOfProduct(int op, int left, int right) {
            if (op == W_REM) {
                return left == right && isSummed(left) && left != RATE ? left : NONE;
            }
            if (isFraction(left) && isFraction(right)) {
                return op == '*' && left == right ? left : RATE;
            }
            if (left == REAL || right == REAL) {
                return left == right ? REAL : NONE;
            }
            if (left == MONEY && isFraction(right)) {
                return MONEY;
            }
            if (op == '/') {
                return left == MONEY && right == MONEY ? RATE : NONE;
            }
            if (right == MONEY && isFraction(left)) {
                return MONEY;
            }
            return left == SPAN && right == COUNT || left == COUNT && right == SPAN ? SPAN : NONE;
        }

        /** The KIND of a PART over three, NONE if there is none such. */
        static int kindOfThree(int op, int left, int right, int third) {
            switch (op) {
                case W_IF:
                    return left == TRUTH && right == third ? right : NONE;
                case W_DATE:
                    return left == COUNT && right == COUNT && third == COUNT ? DATE : NONE;
                case W_OVER:
                    return isSummed(left) && right == DATE && third == DATE ? left : NONE;
                default:
                    return NONE;
            }
        }

        /** The KIND of what is read in a TABLE, NONE if there is none such. */
        static int kindOfReading(int op, int table, int kind) {
            if (kind != MONEY) {
                return NONE;
            }
            if (op == W_LEVEL) {
                return table;
            }
            return table == (op == W_SLICES ? RATE : MONEY) ? MONEY : NONE;
        }

        int setTruth(boolean truth) {
            a = truth ? 1 : 0;
            b = 0;
            return 0;
        }

        int setCount(long count) {
            a = count;
            b = 0;
            return count < Integer.MIN_VALUE || count > Integer.MAX_VALUE ? F_OVER : 0;
        }

        int setMoney(long cents) {
            a = cents;
            b = 0;
            return Math.abs(cents) > MOST_MONEY ? F_OVER : 0;
        }

        int setDate(int day) {
            a = day;
            b = 0;
            return day >= 0 && day <= LAST_DAY ? 0 : F_OVER;
        }

        int setSpan(long months, long days) {
            a = months;
            b = days;
            return Math.abs(months) <= MOST_MONTHS && Math.abs(days) <= LAST_DAY ? 0 : F_OVER;
        }

        /** The fraction over / under (under is not 0) in its lowest terms. */
        int setRate(long over, long under) {
            long x = Math.abs(over);
            long y = Math.abs(under);
            for (int i = 0; i < 100 && y != 0; i++) {
                long rest = x % y;
                x = y;
                y = rest;
            }
            if (x == 0) {
                return F_OVER;
            }
            a = under < 0 ? -over / x : over / x;
            b = Math.abs(under) / x;
            return Math.abs(a) > MOST_OF_RATE || b > MOST_OF_RATE ? F_OVER : 0;
        }

        /**
         * The bits of a number: it is brought between 2^52 and 2^53 by steps that are exact. A 0 does not show its
         * sign when it is compared, so it takes that of the last bits told.
         */
        int setReal(double number, long signOfZero) {
            if (number > 1.7976931348623157E308 || number < -1.7976931348623157E308) {
                return F_NOREAL;
            }
            boolean below = number < 0.0 || number == 0.0 && signOfZero < 0;
            double x = below ? number * -1.0 : number;
            int power = 0;
            for (int i = 0; i < 40 && x >= 9671406556917033397649408.0; i++) {
                x /= 1073741824.0;
                power += 30;
            }
            for (int i = 0; i < 60 && x >= 9007199254740992.0; i++) {
                x /= 2.0;
                power++;
            }
            for (int i = 0; i < 40 && x < 4194304.0 && power > -1044; i++) {
                x *= 1073741824.0;
                power -= 30;
            }
            for (int i = 0; i < 60 && x < 4503599627370496.0 && power > -1074; i++) {
                x *= 2.0;
                power--;
            }
            long digits = (long) x;
            long bits = digits < HIDDEN ? digits : ((long) (power + 1075) << 52) + (digits - HIDDEN);
            a = below ? bits | SIGN : bits;
            b = 0;
            return 0;
        }

        static double realOf(long bits) {
            int exponent = (int) (bits >>> 52) & 2047;
            long digits = bits & (HIDDEN - 1);
            int power = -1074;
            if (exponent > 0) {
                digits += HIDDEN;
                power = exponent - 1075;
            }
            double x = digits;
            for (; power >= 30; power -= 30) {
                x *= 1073741824.0;
            }
            for (; power > 0; power--) {
                x *= 2.0;
            }
            for (; power <= -30; power += 30) {
                x /= 1073741824.0;
            }
            for (; power < 0; power++) {
                x /= 2.0;
            }
            return bits < 0 ? x * -1.0 : x;
        }

        /** To the nearest, halves away from 0; by is not 0. */
        static long near(long cents, long by) {
            long size = Math.abs(cents);
            long under = Math.abs(by);
            if (under == 0) {
                return 0;
            }
            long parts = size / under;
            long rest = size % under;
            if (rest >= under - rest) {
                parts++;
            }
            return cents < 0 == by < 0 ? parts : -parts;
        }

        /** MONEY to multiples of unit, which is above 0, as the word of a mode says. */
        int round(int word, long cents, long unit) {
            if (unit <= 0) {
                return F_ZERO;
            }
            long parts = Math.floorDiv(cents, unit);
            long rest = cents - parts * unit;
            boolean more;
            switch (word) {
                case W_UP:
                    more = rest > 0;
                    break;
                case W_DOWN:
                    more = false;
                    break;
                case W_NEAR:
                    more = rest > unit - rest || rest == unit - rest && cents > 0;
                    break;
                default:
                    more = rest > unit - rest || rest == unit - rest && (parts & 1) != 0;
                    break;
            }
            return setMoney((more ? parts + 1 : parts) * unit);
        }

        /** A PART over two, worked out; lk and rk are the KINDS of what it stands over. */
        int two(int op, int lk, long la, long lb, int rk, long ra, long rb) {
            switch (op) {
                case '=':
                    return setTruth(compare(lk, la, lb, rk, ra, rb) == 0);
                case '#':
                    return setTruth(compare(lk, la, lb, rk, ra, rb) != 0);
                case '<':
                    return setTruth(compare(lk, la, lb, rk, ra, rb) < 0);
                case AT_MOST:
                    return setTruth(compare(lk, la, lb, rk, ra, rb) <= 0);
                case '>':
                    return setTruth(compare(lk, la, lb, rk, ra, rb) > 0);
                case AT_LEAST:
                    return setTruth(compare(lk, la, lb, rk, ra, rb) >= 0);
                case '+':
                    return lk == DATE ? setDate(Calendar.shift((int) la, (int) ra, (int) rb))
                            : plus(lk, la, lb, rk, ra, rb);
                case '-':
                    if (rk == DATE) {
                        return setSpan(0, la - ra);
                    }
                    return lk == DATE ? setDate(Calendar.shift((int) la, (int) -ra, (int) -rb))
                            : plus(lk, la, lb, rk, rk == REAL ? ra ^ SIGN : -ra, rk == SPAN ? -rb : rb);
                case '*':
                    return times(lk, la, lb, rk, ra, rb);
                case '/':
                    return divide(lk, la, lb, rk, ra, rb);
                case W_REM:
                    return remain(lk, la, ra);
                case W_LEAST:
                case W_MOST:
                    int order = compare(lk, la, lb, rk, ra, rb);
                    boolean right = op == W_LEAST ? order > 0 : order < 0;
                    a = right ? ra : la;
                    b = right ? rb : lb;
                    return 0;
                case W_UP:
                case W_DOWN:
                case W_NEAR:
                case W_EVEN:
                    return round(op, la, ra);
                case W_FULLMONTHS:
                    return setCount(Calendar.fullMonths((int) la, (int) ra));
                case W_FULLYEARS:
                    return setCount(Calendar.fullMonths((int) la, (int) ra) / 12);
                default:
                    return setCount(ra - la);
            }
        }

        /** Below, like or above 0; of SPANS only whether it is 0 counts. */
        static int compare(int lk, long la, long lb, int rk, long ra, long rb) {
            if (lk == REAL) {
                double x = realOf(la);
                double y = realOf(ra);
                return x < y ? -1 : x > y ? 1 : 0;
            }
            if (lk == SPAN) {
                return la == ra && lb == rb ? 0 : 1;
            }
            return Long.compare(rk == RATE ? la * rb : la, lk == RATE ? ra * lb : ra);
        }

        int plus(int lk, long la, long lb, int rk, long ra, long rb) {
            switch (lk) {
                case REAL:
                    return setReal(realOf(la) + realOf(ra), la & ra);
                case MONEY:
                    return setMoney(la + ra);
                case SPAN:
                    return setSpan(la + ra, lb + rb);
                default:
                    break;
            }
            if (lk == COUNT && rk == COUNT) {
                return setCount(la + ra);
            }
            long under = lk == RATE ? lb : 1;
            long other = rk == RATE ? rb : 1;
            return setRate(la * other + ra * under, under * other);
        }

        private int times(int lk, long la, long lb, int rk, long ra, long rb) {
            if (lk == REAL) {
                return setReal(realOf(la) * realOf(ra), la ^ ra);
            }
            if (lk == MONEY || rk == MONEY) {
                long cents = lk == MONEY ? la : ra;
                long over = lk == MONEY ? ra : la;
                long under = rk == RATE ? rb : lk == RATE ? lb : 1;
                // Looked at ahead, as MONEY times a COUNT may be more than 64 bits hold.
                if (under == 1 && over != 0 && Math.abs(cents) > MOST_MONEY / Math.abs(over)) {
                    return F_OVER;
                }
                return setMoney(near(cents * over, under));
            }
            if (lk == SPAN) {
                return setSpan(la * ra, lb * ra);
            }
            if (rk == SPAN) {
                return setSpan(la * ra, la * rb);
            }
            if (lk == COUNT && rk == COUNT) {
                return setCount(la * ra);
            }
            return setRate(la * ra, (lk == RATE ? lb : 1) * (rk == RATE ? rb : 1));
        }

        private int divide(int lk, long la, long lb, int rk, long ra, long rb) {
            if (rk == REAL) {
                double by = realOf(ra);
                return by == 0.0 ? F_ZERO : setReal(realOf(la) / by, la ^ ra);
            }
            if (ra == 0) {
                return F_ZERO;
            }
            if (rk == MONEY) {
                return setRate(la, ra);
            }
            long other = rk == RATE ? rb : 1;
            if (lk == MONEY) {
                return setMoney(near(la * other, ra));
            }
            return setRate(la * other, (lk == RATE ? lb : 1) * ra);
        }

        private int remain(int kind, long la, long ra) {
            if ((kind == REAL ? ra & ~SIGN : ra) == 0) {
                return F_ZERO;
            }
            a = kind == REAL ? remainOfReal(la, ra) : la % ra;
            b = 0;
            return 0;
        }

        /** Exact, on the whole numbers that the digits are: ten places are brought down at a time. */
        private static long remainOfReal(long left, long right) {
            long large = left & ~SIGN;
            long small = right & ~SIGN;
            if (large < small || small == 0) {
                return left;
            }
            long x = large < HIDDEN ? large : (large & HIDDEN - 1) + HIDDEN;
            long y = small < HIDDEN ? small : (small & HIDDEN - 1) + HIDDEN;
            int places = Math.max(1, (int) (large >>> 52)) - Math.max(1, (int) (small >>> 52));
            long rest = y == 0 ? 0 : x % y;
            for (; places >= 10 && y != 0; places -= 10) {
                rest = (rest << 10) % y;
            }
            for (; places > 0 && y != 0; places--) {
                rest = (rest << 1) % y;
            }
            int exponent = Math.max(1, (int) (small >>> 52));
            for (; exponent > 1 && rest < HIDDEN && rest > 0; exponent--) {
                rest <<= 1;
            }
            long bits = rest < HIDDEN ? rest : ((long) exponent << 52) + (rest - HIDDEN);
            return left < 0 ? bits | SIGN : bits;
        }

        /** A PART over one, worked out. */
        int one(int op, int kind, long la, long lb) {
            switch (op) {
                case W_NOT:
                    return setTruth(la == 0);
                case MINUS:
                    return negate(kind, la, lb);
                case W_SIZE:
                    boolean below = la < 0;
                    a = la;
                    b = lb;
                    return below ? negate(kind, la, lb) : 0;
                case W_REAL:
                    return setReal(kind == MONEY ? la / 100.0 : kind == RATE ? (double) la / (double) lb : la, 0);
                case W_ROOT:
                    a = rootOf(la);
                    b = 0;
                    return la < 0 && la != SIGN ? F_NOREAL : 0;
                case W_CENTS:
                    return toCents(realOf(la) * 100.0);
                case W_WHOLE:
                    return kind == REAL ? setWhole(realOf(la)) : setCount(lb == 0 ? 0 : la / lb);
                default:
                    return ofDate(op, (int) la);
            }
        }

        private int negate(int kind, long la, long lb) {
            switch (kind) {
                case COUNT:
                    return setCount(-la);
                case SPAN:
                    return setSpan(-la, -lb);
                case REAL:
                    a = la ^ SIGN;
                    b = 0;
                    return 0;
                default:
                    a = -la;
                    b = lb;
                    return 0;
            }
        }

        /** The root's digits one by one, one more than are kept; it never lies midway, so that one rounds it. */
        private static long rootOf(long bits) {
            if (bits <= 0) {
                return bits;
            }
            long digits = bits < HIDDEN ? bits : (bits & HIDDEN - 1) + HIDDEN;
            int power = Math.max(1, (int) (bits >>> 52)) - 1075;
            for (int i = 0; i < 60 && digits < HIDDEN; i++) {
                digits <<= 1;
                power--;
            }
            if ((power & 1) != 0) {
                digits <<= 1;
                power--;
            }
            long root = 0;
            long rest = 0;
            for (int pair = 53; pair >= 0; pair--) {
                rest = rest << 2 | (pair >= 27 ? digits >>> 2 * (pair - 27) & 3 : 0);
                long trial = root << 2 | 1;
                root <<= 1;
                if (rest >= trial) {
                    rest -= trial;
                    root++;
                }
            }
            return ((long) (power / 2 - 26 + 1075) << 52) + ((root + 1 >> 1) - HIDDEN);
        }

        private int toCents(double cents) {
            if (cents >= 1000000000001.0 || cents <= -1000000000001.0) {
                return F_OVER;
            }
            long whole = (long) cents;
            double rest = cents - whole;
            boolean odd = (whole & 1) != 0;
            if (rest > 0.5 || rest == 0.5 && odd) {
                whole++;
            } else if (rest < -0.5 || rest == -0.5 && odd) {
                whole--;
            }
            return setMoney(whole);
        }

        private int setWhole(double number) {
            if (number >= 2147483648.0 || number <= -2147483649.0) {
                return F_OVER;
            }
            return setCount((long) number);
        }

        private int ofDate(int op, int day) {
            int month = Calendar.monthOf(day);
            switch (op) {
                case W_FIRST:
                    return setDate(Calendar.firstOf(month));
                case W_LAST:
                    return setDate(Calendar.firstOf(month + 1) - 1);
                case W_YEAROF:
                    return setCount(month / 12);
                case W_MONTHOF:
                    return setCount(month % 12 + 1);
                case W_DAYOF:
                    return setCount(day - Calendar.firstOf(month) + 1);
                case W_WEEKDAY:
                    return setCount(day % 7 + 1);
                case W_WORKING:
                    return setTruth(calendar.isWorking(day));
                default:
                    return setDate(calendar.dueFrom(day));
            }
        }
    }

    /** NAMES, in the order in which they were told. */
    private static final class Names {
        final byte[][] letters = new byte[MOST_NAMES][Tape.MOST_LETTERS];
        final int[] length = new int[MOST_NAMES];
        final int[] sort = new int[MOST_NAMES];
        final int[] kind = new int[MOST_NAMES];
        final int[] mode = new int[MOST_NAMES];
        final int[] cents = new int[MOST_NAMES];
        final boolean[] hasElse = new boolean[MOST_NAMES];
        final long[][] elseValue = new long[2][MOST_NAMES];
        int size;

        boolean isThere(int name) {
            return name >= 0 && name < size;
        }

        boolean isTerm(int name) {
            return isThere(name) && sort[name] == TERM;
        }

        boolean isTermOf(int name, int ofKind) {
            return isTerm(name) && kind[name] == ofKind;
        }

        boolean isFact(int name) {
            return isThere(name) && (sort[name] == FACT || sort[name] == JOINING);
        }

        boolean isTable(int name) {
            return isThere(name) && sort[name] == TABLE;
        }

        /** The NAME that the current TOKEN is, or NONE. */
        int find(Tape tape) {
            int place = tape.placeHere();
            int many = tape.lengthHere();
            for (int i = 0; i < size; i++) {
                boolean same = length[i] == many;
                for (int j = 0; j < many && same; j++) {
                    same = letters[i][j] == tape.bytes[place + j];
                }
                if (same) {
                    return i;
                }
            }
            return NONE;
        }

        /** One more NAME, spelled as the current TOKEN; there must be room. */
        int add(Tape tape, int ofSort) {
            int name = size;
            int place = tape.placeHere();
            length[name] = tape.lengthHere();
            for (int j = 0; j < length[name]; j++) {
                letters[name][j] = tape.bytes[place + j];
            }
            sort[name] = ofSort;
            kind[name] = TRUTH;
            mode[name] = 0;
            cents[name] = 1;
            hasElse[name] = false;
            size++;
            return name;
        }
    }

    /** THE TAPE, its TOKENS once it is read as a text, how far these are read, and the FAULT of the text. */
    private static final class Tape {
        static final int MOST_BYTES = 4000;
        static final int MOST_LETTERS = 12;
        static final int MOST_TOKENS = 1200;
        private static final int MOST_DIGITS = 9;

        final byte[] bytes = new byte[MOST_BYTES];
        int size;
        private final int[] code = new int[MOST_TOKENS + 1];
        private final int[] place = new int[MOST_TOKENS + 1];
        private final int[] length = new int[MOST_TOKENS + 1];
        private final long[] number = new long[MOST_TOKENS + 1];
        /** Where each RESERVED word begins in WORDS, and which is the first with each letter. */
        private final int[] wordAt = new int[WORD_COUNT + 1];
        private final int[] letterAt = new int[27];
        private int tokens;
        private int at;
        int faultKind;
        int faultPlace = NONE;

        Tape() {
            int word = 0;
            for (int i = 0; i < WORDS.length() && word < WORD_COUNT; i++) {
                if (WORDS.charAt(i) == ' ') {
                    word++;
                    wordAt[word] = i + 1;
                }
            }
            for (int letter = 1; letter <= 26; letter++) {
                int first = letterAt[letter - 1];
                while (first < WORD_COUNT && WORDS.charAt(wordAt[first]) < 'a' + letter) {
                    first++;
                }
                letterAt[letter] = first;
            }
        }

        void put(int four) {
            for (int shift = 24; shift >= 0; shift -= 8) {
                if (size < MOST_BYTES) {
                    bytes[size] = (byte) (four >> shift);
                    size++;
                }
            }
        }

        /** THE TAPE as TOKENS, up to one too many or one that is BAD; it is empty then. */
        void scan() {
            faultKind = 0;
            faultPlace = NONE;
            tokens = 0;
            at = 0;
            int next = 0;
            boolean more = true;
            for (int turn = 0; turn <= MOST_TOKENS && more; turn++) {
                next = skipBlanks(next);
                place[turn] = next;
                length[turn] = 0;
                readToken(turn);
                next += length[turn];
                more = code[turn] != END && code[turn] != BAD;
                tokens = turn + 1;
            }
            size = 0;
        }

        private int byteAt(int i) {
            return i < size ? bytes[i] & 255 : 0;
        }

        private static boolean isDigit(int c) {
            return c >= '0' && c <= '9';
        }

        private static boolean isLetter(int c) {
            return c >= 'a' && c <= 'z';
        }

        private int skipBlanks(int from) {
            boolean told = false;
            for (int i = from; i < size; i++) {
                int c = bytes[i];
                if (c == '\n') {
                    told = false;
                } else if (c == '\'') {
                    told = true;
                } else if (c != ' ' && !told) {
                    return i;
                }
            }
            return size;
        }

        private void readToken(int turn) {
            int from = place[turn];
            int c = byteAt(from);
            if (from >= size) {
                code[turn] = END;
            } else if (isLetter(c)) {
                readWord(turn);
            } else if (isDigit(c)) {
                readDigits(turn);
            } else {
                readSign(turn, c);
            }
        }

        private void readSign(int turn, int c) {
            boolean equal = byteAt(place[turn] + 1) == '=';
            length[turn] = 1;
            code[turn] = c;
            switch (c) {
                case '(': case ')': case '{': case '}': case ',': case ';': case ':': case '/': case '*': case '+':
                case '-': case '%': case '=': case '#':
                    break;
                case '<':
                case '>':
                    if (equal) {
                        length[turn] = 2;
                        code[turn] = c == '<' ? AT_MOST : AT_LEAST;
                    }
                    break;
                default:
                    code[turn] = BAD;
                    break;
            }
        }

        private void readWord(int turn) {
            int from = place[turn];
            int end = from;
            while (end < size && (isLetter(byteAt(end)) || isDigit(byteAt(end)) || byteAt(end) == '_')) {
                end++;
            }
            int many = end - from;
            length[turn] = many;
            code[turn] = many > MOST_LETTERS ? BAD : WORD;
            int letter = byteAt(from) - 'a';
            for (int word = letterAt[letter]; word < letterAt[letter + 1]; word++) {
                boolean same = wordAt[word + 1] - wordAt[word] - 1 == many;
                for (int j = 1; j < many && same; j++) {
                    same = WORDS.charAt(wordAt[word] + j) == byteAt(from + j);
                }
                if (same) {
                    code[turn] = FIRST_WORD + word;
                }
            }
        }

        private void readDigits(int turn) {
            int from = place[turn];
            int end = from;
            while (end < size && isDigit(byteAt(end))) {
                end++;
            }
            int many = end - from;
            if (many == 4 && isDate(from)) {
                code[turn] = DATES;
                length[turn] = 10;
                number[turn] = Calendar.dayOf(numberIn(from, 4), numberIn(from + 5, 2), numberIn(from + 8, 2));
                return;
            }
            length[turn] = many;
            code[turn] = many > MOST_DIGITS ? BAD : NUMBER;
            number[turn] = numberIn(from, Math.min(many, MOST_DIGITS));
            if (many <= MOST_DIGITS && byteAt(end) == '.' && isDigit(byteAt(end + 1)) && isDigit(byteAt(end + 2))) {
                code[turn] = MONEYS;
                length[turn] = many + 3;
                number[turn] = number[turn] * 100 + numberIn(end + 1, 2);
            }
        }

        private boolean isDate(int from) {
            return byteAt(from + 4) == '-' && isDigit(byteAt(from + 5)) && isDigit(byteAt(from + 6))
                    && byteAt(from + 7) == '-' && isDigit(byteAt(from + 8)) && isDigit(byteAt(from + 9));
        }

        private int numberIn(int from, int digits) {
            int sum = 0;
            for (int i = 0; i < digits; i++) {
                sum = sum * 10 + byteAt(from + i) - '0';
            }
            return sum;
        }

        /** The code of the current TOKEN. */
        int here() {
            return at < tokens ? code[at] : END;
        }

        /** The code of the TOKEN behind the current one. */
        int behind() {
            return at + 1 < tokens ? code[at + 1] : END;
        }

        int placeHere() {
            return at < tokens ? place[at] : 0;
        }

        int lengthHere() {
            return at < tokens ? Math.min(length[at], MOST_LETTERS) : 0;
        }

        /** What the current TOKEN counts: a NUMBER, cents, or a DAY (NONE, if there is none such). */
        long numberHere() {
            return at < tokens ? number[at] : 0;
        }

        /** Goes on behind the current TOKEN, when nothing else is wrong with it. */
        boolean take() {
            if (at >= MOST_TOKENS) {
                return fail(T_ROOM, placeHere());
            }
            at++;
            return true;
        }

        boolean expect(int wanted) {
            return here() == wanted ? take() : failSyntax();
        }

        boolean fail(int kind, int where) {
            faultKind = kind;
            faultPlace = where;
            return false;
        }

        boolean failHere(int kind) {
            return fail(kind, placeHere());
        }

        boolean failSyntax() {
            return fail(T_SYNTAX, placeHere());
        }

        /** Where a RESERVED word stands in WORDS. */
        int wordFrom(int word) {
            return word >= FIRST_WORD && word < FIRST_WORD + WORD_COUNT ? wordAt[word - FIRST_WORD] : 0;
        }

        int wordUntil(int word) {
            return word >= FIRST_WORD && word < FIRST_WORD + WORD_COUNT ? wordAt[word - FIRST_WORD + 1] - 1 : 0;
        }
    }

    /** PEOPLE, the RECORDS of them and the SUPPOSITIONS. What was looked up or taken stands in a and b. */
    private static final class People {
        private static final int MOST_RECORDS = 500;
        private static final int MOST_OF_ONE = 16;
        private static final int MOST_SUPPOSITIONS = 8;
        private static final int KEYS = MOST_PEOPLE * MOST_NAMES;
        /** Columns of RECORDS; BEFORE is the RECORD of the same FACT and PERSON ahead of it. */
        private static final int KEY = 0;
        private static final int SINCE = 1;
        private static final int UNTIL = 2;
        private static final int TOLD = 3;
        private static final int WITHDRAWN = 4;
        private static final int BEFORE = 5;

        private final Names names;
        private final Values values;
        int size = 1;
        final double[] weights = new double[MOST_PEOPLE];
        int records;
        private final int[][] record = new int[6][MOST_RECORDS];
        private final long[][] recorded = new long[2][MOST_RECORDS];
        /** Of each FACT of each PERSON the latest RECORD and how many there are. */
        private final int[] latest = new int[KEYS];
        private final int[] many = new int[KEYS];
        int suppositions;
        /** Of each FACT of each PERSON 0, or 1 and the place of its SUPPOSITION; the last place is that of solve(). */
        private final int[] supposed = new int[KEYS];
        private final long[][] supposition = new long[2][MOST_SUPPOSITIONS + 1];
        private int presumedBefore;
        boolean supposing;
        private final long[] links = new long[MOST_PEOPLE];
        long a;
        long b;

        People(Names names, Values values) {
            this.names = names;
            this.values = values;
            Arrays.fill(weights, 1.0);
            Arrays.fill(latest, NONE);
        }

        boolean isThere(int person) {
            return person >= 0 && person < size;
        }

        boolean weigh(int person, int bits) {
            int exponent = bits >>> 23;
            if (bits <= 0 || exponent >= 255) {
                return false;
            }
            int digits = bits & 8388607;
            double weight = exponent == 0 ? digits : digits + 8388608;
            for (int power = Math.max(exponent, 1); power > 150; power--) {
                weight *= 2.0;
            }
            for (int power = Math.max(exponent, 1); power < 150; power++) {
                weight /= 2.0;
            }
            if (weight > 1000000.0) {
                return false;
            }
            weights[person] = weight;
            return true;
        }

        /** Whether two numbers tell a VALUE of a KIND, which then stands in a and b. */
        boolean takes(int kind, long first, long second) {
            a = first;
            b = 0;
            switch (kind) {
                case TRUTH:
                    return first == 0 || first == 1;
                case COUNT:
                    return first >= Integer.MIN_VALUE && first <= Integer.MAX_VALUE;
                case MONEY:
                    return first >= -MOST_MONEY && first <= MOST_MONEY;
                case RATE:
                    return takesRate(first, second);
                case DATE:
                    return first >= 0 && first <= LAST_DAY;
                case SPAN:
                    b = second;
                    return first >= -MOST_MONTHS && first <= MOST_MONTHS && second >= -LAST_DAY && second <= LAST_DAY;
                case REAL:
                    return (first >>> 52 & 2047) != 2047;
                default:
                    return first >= 0 && first < size;
            }
        }

        private boolean takesRate(long over, long under) {
            if (over < -MOST_MONEY || over > MOST_MONEY || under < 1 || under > MOST_MONEY) {
                return false;
            }
            boolean fine = values.setRate(over, under) == 0;
            a = values.a;
            b = values.b;
            return fine;
        }

        boolean isFull(int person, int name) {
            return records >= MOST_RECORDS || many[person * MOST_NAMES + name] >= MOST_OF_ONE;
        }

        /** A RECORD of what stands in a and b; there must be room. */
        void note(int person, int name, int from, int to, int today, boolean withdrawn) {
            int key = person * MOST_NAMES + name;
            record[KEY][records] = key;
            record[SINCE][records] = from;
            record[UNTIL][records] = to;
            record[TOLD][records] = today;
            record[WITHDRAWN][records] = withdrawn ? 1 : 0;
            record[BEFORE][records] = latest[key];
            recorded[0][records] = a;
            recorded[1][records] = b;
            latest[key] = records;
            many[key]++;
            records++;
        }

        /** The RECORDS from one on are gone, as the text that told them is refused. */
        void takeBack(int left) {
            for (int i = records - 1; i >= left; i--) {
                int key = record[KEY][i];
                latest[key] = record[BEFORE][i];
                many[key]--;
            }
            records = left;
        }

        /** A SUPPOSITION of what stands in a and b; false without room. */
        boolean supposeTaken(int person, int name) {
            int key = person * MOST_NAMES + name;
            if (supposed[key] == 0) {
                if (suppositions >= MOST_SUPPOSITIONS) {
                    return false;
                }
                suppositions++;
                supposed[key] = suppositions;
            }
            supposition[0][supposed[key] - 1] = a;
            supposition[1][supposed[key] - 1] = b;
            return true;
        }

        int forgetAll() {
            int before = suppositions;
            suppositions = 0;
            Arrays.fill(supposed, 0);
            return before;
        }

        /** A FACT is what solve() tries, till that is over. */
        void presume(int person, int name) {
            int key = person * MOST_NAMES + name;
            presumedBefore = supposed[key];
            supposed[key] = MOST_SUPPOSITIONS + 1;
        }

        void presumeValue(long tried) {
            supposition[0][MOST_SUPPOSITIONS] = tried;
            supposition[1][MOST_SUPPOSITIONS] = 0;
        }

        void presumeNoMore(int person, int name) {
            supposed[person * MOST_NAMES + name] = presumedBefore;
        }

        /** Whether a RECORD, or a SUPPOSITION, tells a FACT a value, which then stands in a and b. */
        boolean isTold(int name, int person, int day, int known) {
            int key = person * MOST_NAMES + name;
            if (supposing && supposed[key] > 0) {
                a = supposition[0][supposed[key] - 1];
                b = supposition[1][supposed[key] - 1];
                return true;
            }
            int at = latest[key];
            for (int i = 0; i < MOST_OF_ONE && at >= 0; i++) {
                if (record[TOLD][at] <= known && record[SINCE][at] <= day && day <= record[UNTIL][at]) {
                    a = recorded[0][at];
                    b = recorded[1][at];
                    return record[WITHDRAWN][at] == 0;
                }
                at = record[BEFORE][at];
            }
            return false;
        }

        /** Those who hang together with one by FACTS that join, as bits. */
        long together(int self, int day, int known) {
            for (int person = 0; person < size; person++) {
                links[person] = 0;
                for (int name = 0; name < names.size; name++) {
                    if (names.sort[name] == JOINING && isTold(name, person, day, known)) {
                        links[person] |= 1L << a;
                    }
                }
            }
            long found = 1L << self;
            long before = 0;
            for (int turn = 0; turn < MOST_PEOPLE && found != before; turn++) {
                before = found;
                for (int person = 0; person < size; person++) {
                    if ((found >>> person & 1) != 0) {
                        found |= links[person];
                    } else if ((links[person] & found) != 0) {
                        found |= 1L << person;
                    }
                }
            }
            return found;
        }
    }

    /** LAWS: their PARTS, RULES, rows of TABLES and VERSIONS as they were told, and what is ANNULLED. */
    private static final class Laws {
        static final int MOST_PARTS = 8000;
        static final int MOST_RULES = 500;
        static final int MOST_ROWS = 400;
        static final int MOST_VERSIONS = 200;
        static final int MOST_IN_ARTICLE = 40;
        private static final int MOST_HEIGHT = 16;
        private static final int MOST_ANNULMENTS = 40;
        private static final int TABLES = 4;

        final int[][] part = new int[7][MOST_PARTS];
        final long[][] constant = new long[2][MOST_PARTS];
        int parts;
        final int[][] rule = new int[7][MOST_RULES];
        int rules;
        /** Of each row its bound and the two numbers of its value. */
        final long[][] row = new long[3][MOST_ROWS];
        int rows;
        final int[][] version = new int[3][MOST_VERSIONS];
        /** Of each VERSION its RULES, NONE for a VOID one. */
        final int[][] ruleOf = new int[MOST_VERSIONS][MOST_IN_ARTICLE];
        int versions;
        /** Of each LAW its VERSIONS in order, the DAYS on which they were told there, and how many it has. */
        private final int[][] inLaw = new int[LAWS][MOST_VERSIONS];
        private final int[][] told = new int[LAWS][MOST_VERSIONS];
        final int[] size = new int[LAWS];
        /** Of each LAW how many VERSIONS, the first ones, were not enacted in it since it was forked or adopted. */
        private final int[] forked = new int[LAWS];
        /** Of each ANNULMENT its RULE, from which DAY, and the DAY on which it was told. */
        private final int[][] annulled = new int[3][MOST_ANNULMENTS];
        int annulments;
        /** Another number whenever something is told, so that what was found in force is known to be out of date. */
        int stamp;
        /** What was found in force lately, as one call asks for the same DAYS again and again. */
        private final Force[] tables = new Force[TABLES];
        private int tableTurn;

        Laws() {
            for (int i = 0; i < TABLES; i++) {
                tables[i] = new Force();
            }
        }

        static boolean isLaw(int law) {
            return law >= 0 && law < LAWS;
        }

        static boolean isDraft(int law) {
            return law > 0 && law < LAWS;
        }

        /** One more PART, or NONE when it would be too high or there is no room. */
        int addPart(int op, int kind, int named, int left, int right, int third) {
            int under = 0;
            if (left >= 0) {
                under = part[HEIGHT][left];
            }
            if (right >= 0) {
                under = Math.max(under, part[HEIGHT][right]);
            }
            if (third >= 0) {
                under = Math.max(under, part[HEIGHT][third]);
            }
            if (under >= MOST_HEIGHT || parts >= MOST_PARTS) {
                return NONE;
            }
            part[OP][parts] = op;
            part[KIND][parts] = kind;
            part[NAMED][parts] = named;
            part[LEFT][parts] = left;
            part[RIGHT][parts] = right;
            part[THIRD][parts] = third;
            part[HEIGHT][parts] = under + 1;
            constant[0][parts] = 0;
            constant[1][parts] = 0;
            parts++;
            return parts - 1;
        }

        /** A VERSION that is being told, yet without RULES; there must be room. */
        void openVersion(int article, int from) {
            version[ARTICLE][versions] = article;
            version[FROM][versions] = from;
            version[RULE_COUNT][versions] = 0;
        }

        /** The VERSION that is being told begins with the RULES of another one. */
        void beginWith(int other) {
            int many = version[RULE_COUNT][other];
            System.arraycopy(ruleOf[other], 0, ruleOf[versions], 0, many);
            version[RULE_COUNT][versions] = many;
        }

        int rulesInOpen() {
            return version[RULE_COUNT][versions];
        }

        /** A RULE (NONE: a VOID one) at a place of the VERSION that is being told, perhaps behind its last. */
        boolean place(int rule, int at) {
            ruleOf[versions][at] = rule;
            version[RULE_COUNT][versions] = Math.max(version[RULE_COUNT][versions], at + 1);
            return true;
        }

        /** A RULE that is being told, yet without exs and rows; there must be room. */
        void openRule(int name, int excepted, int number) {
            rule[OF_NAME][rules] = name;
            rule[EXCEPTED][rules] = excepted;
            rule[EXCEPTED_NUMBER][rules] = number;
            rule[EX][rules] = NONE;
            rule[WHEN][rules] = NONE;
            rule[ROW_FROM][rules] = rows;
            rule[ROW_COUNT][rules] = 0;
        }

        void closeVersion(int law, int today) {
            inLaw[law][size[law]] = versions;
            told[law][size[law]] = today;
            size[law]++;
            versions++;
            stamp++;
        }

        int copyTo(int draft) {
            size[draft] = size[0];
            System.arraycopy(inLaw[0], 0, inLaw[draft], 0, size[0]);
            System.arraycopy(told[0], 0, told[draft], 0, size[0]);
            forked[draft] = size[0];
            stamp++;
            return size[0];
        }

        int bringHome(int draft, int today) {
            int many = size[draft] - forked[draft];
            if (size[0] + many > MOST_VERSIONS) {
                return FULL;
            }
            for (int i = forked[draft]; i < size[draft]; i++) {
                inLaw[0][size[0]] = inLaw[draft][i];
                told[0][size[0]] = today;
                size[0]++;
            }
            forked[draft] = size[draft];
            stamp++;
            return many;
        }

        /** The VERSION of an article in force, or NONE. */
        int inForce(int law, int article, int day, int known) {
            int found = NONE;
            for (int i = 0; i < size[law]; i++) {
                int at = inLaw[law][i];
                if (version[ARTICLE][at] == article && version[FROM][at] <= day && told[law][i] <= known
                        && (found < 0 || version[FROM][at] >= version[FROM][found])) {
                    found = at;
                }
            }
            return found;
        }

        /** The VERSIONS in force, ordered by articles, and how many. */
        int pick(int law, int day, int known, int[] into) {
            int many = 0;
            for (int i = 0; i < size[law]; i++) {
                int next = inLaw[law][i];
                if (version[FROM][next] > day || told[law][i] > known) {
                    continue;
                }
                int at = many;
                while (at > 0 && version[ARTICLE][into[at - 1]] >= version[ARTICLE][next]) {
                    at--;
                }
                if (at == many || version[ARTICLE][into[at]] != version[ARTICLE][next]) {
                    System.arraycopy(into, at, into, at + 1, many - at);
                    into[at] = next;
                    many++;
                } else if (version[FROM][next] >= version[FROM][into[at]]) {
                    into[at] = next;
                }
            }
            return many;
        }

        /** The first and the last DAY between which nothing begins to hold, or is annulled, and a DAY lies. */
        void bound(int law, int day, int known, int[] range) {
            range[0] = 0;
            range[1] = LAST_DAY;
            for (int i = 0; i < size[law] + annulments; i++) {
                int from = i < size[law] ? version[FROM][inLaw[law][i]] : annulled[1][i - size[law]];
                if (i < size[law] && told[law][i] > known) {
                    continue;
                }
                if (from <= day) {
                    range[0] = Math.max(range[0], from);
                } else {
                    range[1] = Math.min(range[1], from - 1);
                }
            }
        }

        /** What is in force in a LAW on a DAY as known on one. */
        Force tableOf(int law, int day, int known) {
            for (int i = 0; i < TABLES; i++) {
                if (tables[i].fits(this, law, day, known)) {
                    return tables[i];
                }
            }
            Force table = tables[tableTurn];
            tableTurn = (tableTurn + 1) % TABLES;
            table.build(this, law, day, known);
            table.link(this);
            return table;
        }

        boolean isAnnulled(int rule, int day, int known) {
            for (int i = 0; i < annulments; i++) {
                if (annulled[0][i] == rule && annulled[1][i] <= day && annulled[2][i] <= known) {
                    return true;
                }
            }
            return false;
        }

        /** The RULE with a number of a VERSION (from 0), NONE for one that is VOID, or ANNULLED then. */
        int ruleAt(int ofVersion, int i, int day, int known) {
            int found = ruleOf[ofVersion][i];
            return found >= 0 && isAnnulled(found, day, known) ? NONE : found;
        }

        /** The RULE in force in LAW 0 with a number (from 1) in an article, or NONE. */
        int ruleInForce(int article, int number, int day, int known) {
            int at = inForce(0, article, day, known);
            if (at < 0 || number < 1 || number > version[RULE_COUNT][at]) {
                return NONE;
            }
            return ruleAt(at, number - 1, day, known);
        }

        boolean annulRule(int rule, int from, int today) {
            if (annulments >= MOST_ANNULMENTS) {
                return false;
            }
            annulled[0][annulments] = rule;
            annulled[1][annulments] = from;
            annulled[2][annulments] = today;
            annulments++;
            stamp++;
            return true;
        }

        /** Whether two PARTS are written alike; they are at most MOST_HEIGHT high. */
        private boolean areAlike(int one, int other) {
            if (one < 0 || other < 0 || one == other) {
                return one == other;
            }
            return part[OP][one] == part[OP][other] && part[KIND][one] == part[KIND][other]
                    && part[NAMED][one] == part[NAMED][other]
                    && constant[0][one] == constant[0][other] && constant[1][one] == constant[1][other]
                    && areAlike(part[LEFT][one], part[LEFT][other])
                    && areAlike(part[RIGHT][one], part[RIGHT][other])
                    && areAlike(part[THIRD][one], part[THIRD][other]);
        }

        boolean areRulesAlike(int one, int other) {
            if (one < 0 || other < 0 || one == other) {
                return one == other;
            }
            if (rule[OF_NAME][one] != rule[OF_NAME][other] || rule[EXCEPTED][one] != rule[EXCEPTED][other]
                    || rule[EXCEPTED_NUMBER][one] != rule[EXCEPTED_NUMBER][other]
                    || rule[ROW_COUNT][one] != rule[ROW_COUNT][other]) {
                return false;
            }
            for (int i = 0; i < rule[ROW_COUNT][one]; i++) {
                for (int column = 0; column < 3; column++) {
                    if (row[column][rule[ROW_FROM][one] + i] != row[column][rule[ROW_FROM][other] + i]) {
                        return false;
                    }
                }
            }
            return areAlike(rule[EX][one], rule[EX][other]) && areAlike(rule[WHEN][one], rule[WHEN][other]);
        }

        /** The TERMS, as bits, that a PART names for the PERSON and on the DAY for which it is worked out itself. */
        private long termsIn(int at) {
            if (at < 0) {
                return 0;
            }
            switch (part[OP][at]) {
                case TERM_NAME:
                    return 1L << part[NAMED][at];
                case W_OF:
                case W_ON:
                    return termsIn(part[RIGHT][at]);
                case W_OVER:
                    return termsIn(part[RIGHT][at]) | termsIn(part[THIRD][at]);
                case W_SUM:
                case W_COUNT:
                case W_ANY:
                case W_ALL:
                case W_GREATEST:
                case W_SMALLEST:
                    return 0;
                default:
                    return termsIn(part[LEFT][at]) | termsIn(part[RIGHT][at]) | termsIn(part[THIRD][at]);
            }
        }
    }

    /** What is in force in a LAW on some DAYS as known on one: RULES in order, and how they hang together. */
    private static final class Force {
        private final int[] versions = new int[Laws.MOST_VERSIONS + 1];
        private final int[] range = new int[2];
        private int stamp = NONE;
        private int law;
        private int known;
        int size;
        final int[] rule = new int[Laws.MOST_RULES];
        /** Of each RULE 128 times its article, and its number. */
        final int[] key = new int[Laws.MOST_RULES];
        /** Of each RULE the next one that excepts the same (or none, too), and the first that excepts it, or NONE. */
        final int[] next = new int[Laws.MOST_RULES];
        final int[] exception = new int[Laws.MOST_RULES];
        /** Of each TERM the first RULE that excepts none, of each TABLE the last that tells it, or NONE. */
        final int[] first = new int[MOST_NAMES];

        boolean fits(Laws laws, int ofLaw, int day, int knownOn) {
            return stamp == laws.stamp && law == ofLaw && known == knownOn && range[0] <= day && day <= range[1];
        }

        void build(Laws laws, int ofLaw, int day, int knownOn) {
            stamp = laws.stamp;
            law = ofLaw;
            known = knownOn;
            size = 0;
            laws.bound(ofLaw, day, knownOn, range);
            int many = laws.pick(ofLaw, day, knownOn, versions);
            for (int v = 0; v < many; v++) {
                int version = versions[v];
                for (int i = 0; i < laws.version[RULE_COUNT][version]; i++) {
                    int found = laws.ruleOf[version][i];
                    if (found >= 0 && size < Laws.MOST_RULES && !laws.isAnnulled(found, day, knownOn)) {
                        rule[size] = found;
                        key[size] = laws.version[ARTICLE][version] * 128 + i + 1;
                        size++;
                    }
                }
            }
        }

        /** From the last on, so that each chain ends up in order. */
        void link(Laws laws) {
            Arrays.fill(first, NONE);
            Arrays.fill(exception, NONE);
            for (int i = size - 1; i >= 0; i--) {
                int at = rule[i];
                int name = laws.rule[OF_NAME][at];
                next[i] = NONE;
                if (laws.rule[EX][at] < 0) {
                    if (first[name] < 0) {
                        first[name] = i;
                    }
                } else if (laws.rule[EXCEPTED][at] < 0) {
                    next[i] = first[name];
                    first[name] = i;
                } else {
                    int over = find(laws.rule[EXCEPTED][at] * 128 + laws.rule[EXCEPTED_NUMBER][at]);
                    if (over >= 0 && laws.rule[OF_NAME][rule[over]] == name) {
                        next[i] = exception[over];
                        exception[over] = i;
                    }
                }
            }
        }

        private int find(int wanted) {
            int low = 0;
            int high = size - 1;
            for (int turn = 0; turn < 32 && low <= high; turn++) {
                int middle = (low + high) / 2;
                if (key[middle] == wanted) {
                    return middle;
                }
                if (key[middle] < wanted) {
                    low = middle + 1;
                } else {
                    high = middle - 1;
                }
            }
            return NONE;
        }
    }

    /**
     * Reads texts by the grammar. Where a method answers whether it went well, or a number below 0 when it did not,
     * the FAULT stands on THE TAPE. An ex is read with rows of its own, not by recursion: what is open waits in ops,
     * what is whole in wholes.
     */
    private static final class Reader {
        private static final int MOST_OPEN = 40;
        private static final int MOST_ARTICLES = 30;
        private static final int MOST_IN_TABLE = 20;
        private static final long MOST_IN_ROW = 999999999L;
        private static final int MOST_TURNS = 4 * Tape.MOST_TOKENS;
        /** Where a LAW TEXT is being read: between articles, between RULES, or in an ex of a RULE. */
        private static final int ARTICLES = 0;
        private static final int RULES = 1;
        private static final int EX_OF_IS = 2;
        private static final int EX_OF_WHEN = 3;
        /** How tightly operators bind. */
        private static final int OR_RANK = 1;
        private static final int AND_RANK = 2;
        private static final int NOT_RANK = 3;
        private static final int COMPARE_RANK = 4;
        private static final int SUM_RANK = 5;
        private static final int PRODUCT_RANK = 6;
        private static final int MINUS_RANK = 7;
        private static final int ON_RANK = 8;
        private static final int OF_RANK = 9;
        /** How a step through an ex went. */
        private static final int GOING = 0;
        private static final int DONE = 1;
        private static final int REFUSED = -2;
        /** Columns of ops. */
        private static final int CODE = 0;
        private static final int PLACE = 1;
        private static final int WITH_NAME = 2;
        private static final int COMMAS = 3;

        private final Tape tape;
        private final Names names;
        private final People people;
        private final Laws laws;
        private final Calendar calendar;
        private final int[][] op = new int[4][Tape.MOST_TOKENS + 2];
        private int ops;
        private final int[] whole = new int[Tape.MOST_TOKENS + 2];
        private int wholes;
        private int open;
        /** Whether an operand must come, where the ex begins, where its RULE will stand in its article. */
        private boolean wanted;
        private int exPlace;
        private int ruleAt;
        private int state;
        /** The constant, ADDRESS or DATE that was read last. */
        private int constantKind;
        private long constantA;
        private long constantB;
        private int article;
        private int day;

        Reader(Tape tape, Names names, People people, Laws laws, Calendar calendar) {
            this.tape = tape;
            this.names = names;
            this.people = people;
            this.laws = laws;
            this.calendar = calendar;
        }

        int readNames() {
            int before = names.size;
            boolean fine = true;
            for (int turn = 0; turn <= Tape.MOST_TOKENS && fine && tape.here() != END; turn++) {
                int word = tape.here();
                if (word == W_TABLE) {
                    fine = readTableName();
                } else if (word == W_FACT || word == W_TERM) {
                    fine = readName(word == W_FACT ? FACT : TERM);
                } else {
                    fine = tape.failSyntax();
                }
            }
            if (!fine) {
                names.size = before;
                return NONE;
            }
            return names.size - before;
        }

        private boolean readNewName(int sort) {
            if (!tape.take()) {
                return false;
            }
            if (tape.here() != WORD) {
                return tape.failSyntax();
            }
            if (names.find(tape) >= 0) {
                return tape.failHere(T_NAME);
            }
            if (names.size >= MOST_NAMES) {
                return tape.failHere(T_ROOM);
            }
            names.add(tape, sort);
            return tape.take() && tape.expect(':');
        }

        private boolean readTableName() {
            if (!readNewName(TABLE)) {
                return false;
            }
            int word = tape.here();
            if (word != W_RATE && word != W_MONEY) {
                return tape.failSyntax();
            }
            names.kind[names.size - 1] = word == W_RATE ? RATE : MONEY;
            return tape.take() && tape.expect(';');
        }

        private boolean readName(int sort) {
            if (!readNewName(sort)) {
                return false;
            }
            int name = names.size - 1;
            int kind = kindOfWord(tape.here());
            if (kind < 0) {
                return tape.failSyntax();
            }
            names.kind[name] = kind;
            if (!tape.take() || !readMode(name) || !readElse(name)) {
                return false;
            }
            if (tape.here() == W_JOINS) {
                int place = tape.placeHere();
                if (!tape.take()) {
                    return false;
                }
                if (sort != FACT || kind != PERSON) {
                    return tape.fail(T_KIND, place);
                }
                names.sort[name] = JOINING;
            }
            return tape.expect(';');
        }

        private static int kindOfWord(int word) {
            switch (word) {
                case W_TRUTH:
                    return TRUTH;
                case W_COUNT:
                    return COUNT;
                case W_MONEY:
                    return MONEY;
                case W_RATE:
                    return RATE;
                case W_DATE:
                    return DATE;
                case W_SPAN:
                    return SPAN;
                case W_REAL:
                    return REAL;
                case W_PERSON:
                    return PERSON;
                default:
                    return NONE;
            }
        }

        private boolean readMode(int name) {
            int word = tape.here();
            int mode = word == W_UP ? 1 : word == W_DOWN ? 2 : word == W_NEAR ? 3 : word == W_EVEN ? 4 : 0;
            if (mode == 0) {
                return true;
            }
            int place = tape.placeHere();
            if (!tape.take()) {
                return false;
            }
            if (!names.isTermOf(name, MONEY)) {
                return tape.fail(T_KIND, place);
            }
            int cents = readNumber(1, Integer.MAX_VALUE);
            names.mode[name] = mode;
            names.cents[name] = cents;
            return cents >= 0;
        }

        private boolean readElse(int name) {
            if (tape.here() != W_ELSE) {
                return true;
            }
            if (!tape.take()) {
                return false;
            }
            int place = tape.placeHere();
            if (!readConstant()) {
                return false;
            }
            if (constantKind != names.kind[name]) {
                return tape.fail(T_KIND, place);
            }
            names.hasElse[name] = true;
            names.elseValue[0][name] = constantA;
            names.elseValue[1][name] = constantB;
            return true;
        }

        /** A NUMBER from low to high, or NONE with a FAULT. */
        private int readNumber(int low, int high) {
            if (tape.here() != NUMBER) {
                tape.failSyntax();
                return NONE;
            }
            int number = (int) tape.numberHere();
            if (number < low || number > high) {
                tape.failHere(T_RANGE);
                return NONE;
            }
            return tape.take() ? number : NONE;
        }

        private boolean readConstant() {
            boolean below = tape.here() == '-';
            if (below && !tape.take()) {
                return false;
            }
            switch (tape.here()) {
                case NUMBER:
                    if (!readUnits()) {
                        return false;
                    }
                    break;
                case MONEYS:
                    setConstant(MONEY, tape.numberHere(), 0);
                    if (!tape.take()) {
                        return false;
                    }
                    break;
                case W_TRUE:
                case W_FALSE:
                    setConstant(TRUTH, tape.here() == W_TRUE ? 1 : 0, 0);
                    return below ? tape.failSyntax() : tape.take();
                case DATES:
                    if (below) {
                        return tape.failSyntax();
                    }
                    setConstant(DATE, tape.numberHere(), 0);
                    return constantA < 0 ? tape.failHere(T_RANGE) : tape.take();
                default:
                    return tape.failSyntax();
            }
            if (below) {
                constantA = -constantA;
                constantB = constantKind == SPAN ? -constantB : constantB;
            }
            return true;
        }

        private void setConstant(int kind, long a, long b) {
            constantKind = kind;
            constantA = a;
            constantB = b;
        }

        /** A NUMBER, which is here, and the unit behind it, if there is one. */
        private boolean readUnits() {
            int number = (int) tape.numberHere();
            int place = tape.placeHere();
            if (!tape.take()) {
                return false;
            }
            int most;
            switch (tape.here()) {
                case '%':
                    // number / 100 in its lowest terms: the greatest that divides both
                    most = 10000;
                    int shared = 100;
                    while (shared > 1 && (number % shared != 0 || 100 % shared != 0)) {
                        shared--;
                    }
                    setConstant(RATE, number / shared, 100 / shared);
                    break;
                case W_DAYS:
                    most = LAST_DAY;
                    setConstant(SPAN, 0, number);
                    break;
                case W_MONTHS:
                    most = MOST_MONTHS;
                    setConstant(SPAN, number, 0);
                    break;
                case W_YEARS:
                    most = MOST_MONTHS / 12;
                    setConstant(SPAN, number * 12L, 0);
                    break;
                default:
                    setConstant(COUNT, number, 0);
                    return true;
            }
            return number > most ? tape.fail(T_RANGE, place) : tape.take();
        }

        int readHolidays() {
            int many = 0;
            for (int turn = 0; turn <= Tape.MOST_TOKENS && tape.here() != END; turn++) {
                if (!readHoliday(many)) {
                    return NONE;
                }
                many++;
            }
            calendar.close(many);
            return many;
        }

        private boolean readHoliday(int at) {
            int word = tape.here();
            if (word == NUMBER) {
                if (tape.numberHere() < 1 || tape.numberHere() > 31) {
                    return tape.failHere(T_RANGE);
                }
            } else if (word != W_EASTER && word != W_FIRST && word != W_LAST) {
                return tape.failSyntax();
            }
            if (at >= Calendar.MOST_HOLIDAYS) {
                return tape.failHere(T_ROOM);
            }
            int number = (int) tape.numberHere();
            calendar.told[1][at] = number;
            calendar.told[2][at] = 1;
            if (!tape.take()) {
                return false;
            }
            boolean fine;
            switch (word) {
                case NUMBER:
                    calendar.told[0][at] = Calendar.FIXED;
                    fine = readMonthWith(at, number);
                    break;
                case W_EASTER:
                    calendar.told[0][at] = Calendar.EASTER;
                    fine = readFromEaster(at);
                    break;
                default:
                    calendar.told[0][at] = word == W_FIRST ? Calendar.FIRST_OF : Calendar.LAST_OF;
                    calendar.told[1][at] = weekdayOf(tape.here());
                    fine = calendar.told[1][at] < 0 ? tape.failSyntax()
                            : tape.take() && tape.expect(W_OF) && readMonthWith(at, 1);
                    break;
            }
            return fine && tape.expect(';');
        }

        /** A month that has a day in leap years. */
        private boolean readMonthWith(int to, int number) {
            if (tape.here() == NUMBER) {
                long month = tape.numberHere();
                if (month < 1 || month > 12 || Calendar.dayOf(2000, (int) month, number) < 0) {
                    return tape.failHere(T_RANGE);
                }
            }
            calendar.told[2][to] = readNumber(1, 12);
            return calendar.told[2][to] >= 0;
        }

        private boolean readFromEaster(int to) {
            int word = tape.here();
            calendar.told[1][to] = 0;
            if (word != W_PLUS && word != W_MINUS) {
                return true;
            }
            if (!tape.take()) {
                return false;
            }
            int days = readNumber(0, 100);
            calendar.told[1][to] = word == W_MINUS ? -days : days;
            return days >= 0;
        }

        private static int weekdayOf(int word) {
            switch (word) {
                case W_MONDAY:
                    return 0;
                case W_TUESDAY:
                    return 1;
                case W_WEDNESDAY:
                    return 2;
                case W_THURSDAY:
                    return 3;
                case W_FRIDAY:
                    return 4;
                case W_SATURDAY:
                    return 5;
                case W_SUNDAY:
                    return 6;
                default:
                    return NONE;
            }
        }

        int readFacts() {
            int before = people.records;
            for (int turn = 0; turn <= Tape.MOST_TOKENS && tape.here() != END; turn++) {
                if (!readFact()) {
                    people.takeBack(before);
                    return NONE;
                }
            }
            return people.records - before;
        }

        private boolean readFact() {
            int place = tape.placeHere();
            if (!tape.expect(W_PERSON)) {
                return false;
            }
            int person = readNumber(0, people.size - 1);
            if (person < 0) {
                return false;
            }
            if (tape.here() != WORD) {
                return tape.failSyntax();
            }
            int name = names.find(tape);
            if (!names.isFact(name)) {
                return tape.failHere(T_NAME);
            }
            if (!tape.take()) {
                return false;
            }
            if (people.isFull(person, name)) {
                return tape.fail(T_ROOM, place);
            }
            boolean withdrawn = tape.here() == W_WITHDRAWN;
            setConstant(TRUTH, 0, 0);
            boolean fine = withdrawn ? tape.take() : tape.expect(W_IS) && readFactValue(names.kind[name]);
            if (!fine || !readDay(W_FROM, 0, 0)) {
                return false;
            }
            int from = day;
            if (!readDay(W_UNTIL, LAST_DAY, from) || !tape.expect(';')) {
                return false;
            }
            people.a = constantA;
            people.b = constantB;
            people.note(person, name, from, day, calendar.today, withdrawn);
            return true;
        }

        private boolean readFactValue(int kind) {
            int place = tape.placeHere();
            boolean alone = tape.here() == NUMBER;
            if (!readConstant()) {
                return false;
            }
            if (kind == PERSON && alone && constantKind == COUNT) {
                return people.isThere((int) constantA) || tape.fail(T_RANGE, place);
            }
            return constantKind == kind || tape.fail(T_KIND, place);
        }

        /** A word and a DATE not ahead of one, if the word is here, else what is taken without. */
        private boolean readDay(int word, int without, int least) {
            day = without;
            if (tape.here() != word) {
                return true;
            }
            if (!tape.take()) {
                return false;
            }
            if (tape.here() != DATES) {
                return tape.failSyntax();
            }
            day = (int) tape.numberHere();
            return day < least ? tape.failHere(T_RANGE) : tape.take();
        }

        /** Goes from one state to the next, so that an ex is read no deeper than what stands around it. */
        int readLaw(int law) {
            int partsBefore = laws.parts;
            int rulesBefore = laws.rules;
            int rowsBefore = laws.rows;
            int versionsBefore = laws.versions;
            int sizeBefore = laws.size[law];
            int many = 0;
            boolean fine = true;
            boolean amends = false;
            state = ARTICLES;
            for (int turn = 0; turn <= MOST_TURNS && fine; turn++) {
                if (state == ARTICLES) {
                    if (many > 0 && tape.here() == END) {
                        return many;
                    }
                    amends = tape.here() == W_AMEND;
                    fine = readHeading(law, amends, many >= MOST_ARTICLES);
                    state = RULES;
                } else if (state != RULES) {
                    int went = stepEx();
                    fine = went == GOING || went == DONE && endEx();
                } else if (tape.here() != '}') {
                    fine = readRule(amends);
                } else {
                    fine = tape.take();
                    if (fine) {
                        laws.closeVersion(law, calendar.today);
                        many++;
                        state = ARTICLES;
                    }
                }
            }
            laws.parts = partsBefore;
            laws.rules = rulesBefore;
            laws.rows = rowsBefore;
            laws.versions = versionsBefore;
            laws.size[law] = sizeBefore;
            laws.stamp++;
            return NONE;
        }

        private boolean readHeading(int law, boolean amends, boolean full) {
            if (!amends && tape.here() != W_ARTICLE) {
                return tape.failSyntax();
            }
            if (full || laws.versions >= Laws.MOST_VERSIONS || laws.size[law] >= Laws.MOST_VERSIONS) {
                return tape.failHere(T_ROOM);
            }
            if (!tape.take()) {
                return false;
            }
            int place = tape.placeHere();
            if (!readAddress() || !readDay(W_FROM, calendar.today, 0) || !tape.expect('{')) {
                return false;
            }
            laws.openVersion(article, day);
            if (amends) {
                int before = laws.inForce(law, article, day, calendar.today);
                if (before < 0) {
                    return tape.fail(T_LACK, place);
                }
                laws.beginWith(before);
            }
            return true;
        }

        private boolean readAddress() {
            int number = readNumber(1, 999);
            if (number < 0) {
                return false;
            }
            article = number * 27;
            if (tape.here() == WORD && tape.lengthHere() == 1) {
                article += tape.bytes[tape.placeHere()] - 'a' + 1;
                return tape.take();
            }
            return true;
        }

        /** What an amendment says ahead of a RULE: at which place (from 0) that comes, or NONE with a FAULT. */
        private int readChange() {
            int word = tape.here();
            int many = laws.rulesInOpen();
            if (word == W_ADD) {
                if (many >= Laws.MOST_IN_ARTICLE) {
                    tape.failHere(T_ROOM);
                    return NONE;
                }
                return tape.take() ? many : NONE;
            }
            if (word != W_STRIKE && word != W_PUT) {
                tape.failSyntax();
                return NONE;
            }
            if (!tape.take()) {
                return NONE;
            }
            int place = tape.placeHere();
            int number = readNumber(1, 99);
            if (number < 0) {
                return NONE;
            }
            if (number > many) {
                tape.fail(T_LACK, place);
                return NONE;
            }
            return word == W_STRIKE || tape.expect(':') ? number - 1 : NONE;
        }

        /** A RULE, but of one of a TERM only what stands ahead of its ex. */
        private boolean readRule(boolean amends) {
            boolean strikes = amends && tape.here() == W_STRIKE;
            ruleAt = amends ? readChange() : laws.rulesInOpen();
            if (ruleAt < 0) {
                return false;
            }
            if (strikes) {
                return tape.expect(';') && laws.place(NONE, ruleAt);
            }
            int word = tape.here();
            boolean full = ruleAt >= Laws.MOST_IN_ARTICLE;
            if (word == W_VOID) {
                return full ? tape.failHere(T_ROOM)
                        : tape.take() && tape.expect(';') && laws.place(NONE, ruleAt);
            }
            boolean noRoom = full || laws.rules >= Laws.MOST_RULES;
            if (noRoom && (word == W_TABLE || word == W_EXCEPT)) {
                return tape.failHere(T_ROOM);
            }
            if (word == W_TABLE) {
                return tape.take() && readTable() && laws.place(laws.rules - 1, ruleAt);
            }
            int number = word == W_EXCEPT ? readExcepted() : 0;
            int excepted = number > 0 ? article : NONE;
            int term = number < 0 ? NONE : readTerm(noRoom);
            if (term < 0 || !tape.expect(W_IS)) {
                return false;
            }
            laws.openRule(term, excepted, number);
            state = EX_OF_IS;
            return beginEx();
        }

        /** Which RULE is excepted: its number (its article stands in article), or NONE with a FAULT. */
        private int readExcepted() {
            if (!tape.take() || !readAddress() || !tape.expect('/')) {
                return NONE;
            }
            int number = readNumber(1, 99);
            return number >= 0 && tape.expect(':') ? number : NONE;
        }

        private int readTerm(boolean noRoom) {
            if (tape.here() != WORD) {
                tape.failSyntax();
                return NONE;
            }
            int term = names.find(tape);
            if (!names.isTerm(term)) {
                tape.failHere(T_NAME);
                return NONE;
            }
            if (noRoom) {
                tape.failHere(T_ROOM);
                return NONE;
            }
            return tape.take() ? term : NONE;
        }

        /** Behind an ex of a RULE: "when" and one more, or the RULE's end. */
        private boolean endEx() {
            int found = whole[0];
            boolean ofIs = state == EX_OF_IS;
            int kind = ofIs ? names.kind[laws.rule[OF_NAME][laws.rules]] : TRUTH;
            if (laws.part[KIND][found] != kind) {
                return tape.fail(T_KIND, exPlace);
            }
            laws.rule[ofIs ? EX : WHEN][laws.rules] = found;
            if (ofIs && tape.here() == W_WHEN) {
                state = EX_OF_WHEN;
                return tape.take() && beginEx();
            }
            state = RULES;
            if (!tape.expect(';')) {
                return false;
            }
            laws.rules++;
            return laws.place(laws.rules - 1, ruleAt);
        }

        private boolean readTable() {
            if (tape.here() != WORD) {
                return tape.failSyntax();
            }
            int table = names.find(tape);
            if (!names.isTable(table)) {
                return tape.failHere(T_NAME);
            }
            if (!tape.take() || !tape.expect('{')) {
                return false;
            }
            int from = laws.rows;
            for (int turn = 0; turn <= MOST_IN_TABLE && (laws.rows == from || tape.here() != '}'); turn++) {
                if (!readRow(from, names.kind[table])) {
                    return false;
                }
            }
            if (!tape.take()) {
                return false;
            }
            laws.openRule(table, NONE, 0);
            laws.rule[ROW_FROM][laws.rules] = from;
            laws.rule[ROW_COUNT][laws.rules] = laws.rows - from;
            laws.rules++;
            return true;
        }

        /** One more row of a TABLE of a KIND, whose rows begin at from. */
        private boolean readRow(int from, int kind) {
            if (tape.here() != MONEYS) {
                return tape.failSyntax();
            }
            int at = laws.rows;
            long bound = tape.numberHere();
            if (bound > MOST_IN_ROW || at > from && bound <= laws.row[0][at - 1]) {
                return tape.failHere(T_RANGE);
            }
            if (at - from >= MOST_IN_TABLE || at >= Laws.MOST_ROWS) {
                return tape.failHere(T_ROOM);
            }
            if (!tape.take() || !tape.expect(':')) {
                return false;
            }
            int place = tape.placeHere();
            if (tape.here() == MONEYS) {
                setConstant(MONEY, tape.numberHere(), 0);
                if (constantA > MOST_IN_ROW) {
                    return tape.failHere(T_RANGE);
                }
                if (!tape.take()) {
                    return false;
                }
            } else if (tape.here() != NUMBER) {
                return tape.failSyntax();
            } else if (tape.behind() != '%') {
                return tape.take() && tape.expect('%');
            } else if (!readUnits()) {
                return false;
            }
            if (constantKind != kind) {
                return tape.fail(T_KIND, place);
            }
            laws.row[0][at] = bound;
            laws.row[1][at] = constantA;
            laws.row[2][at] = constantB;
            laws.rows++;
            return tape.expect(';');
        }

        /** A question, an ex alone: its PART, or NONE with a FAULT. */
        int readQuestion() {
            beginEx();
            int went = GOING;
            for (int turn = 0; turn <= MOST_TURNS && went == GOING; turn++) {
                went = stepEx();
            }
            if (went == DONE && tape.here() != END) {
                tape.failSyntax();
                return NONE;
            }
            return went == DONE ? whole[0] : NONE;
        }

        private boolean beginEx() {
            ops = 0;
            wholes = 0;
            open = 0;
            wanted = true;
            exPlace = tape.placeHere();
            return true;
        }

        /** Goes on with an ex by an operand, an operator, or an end of something; DONE, if what is here does not. */
        private int stepEx() {
            if (wanted) {
                int before = wholes;
                boolean fine = readOperand();
                wanted = wholes == before;
                return fine ? GOING : REFUSED;
            }
            int code = tape.here();
            int rank = code == W_NOT ? 0 : rankOf(code);
            if (!combine(rank)) {
                return REFUSED;
            }
            if (rank > 0 && mayFollow(rank)) {
                wanted = true;
                return push(code, tape.placeHere(), code == W_OF || code == W_ON) ? GOING : REFUSED;
            }
            if (!combine(0)) {
                return REFUSED;
            }
            if (ops == 0) {
                return DONE;
            }
            wanted = code == ',' && wantsMore();
            boolean fine = wanted ? readComma() : readClose();
            return fine ? GOING : REFUSED;
        }

        /** How tightly an operator binds; 0 for what is none. */
        private static int rankOf(int code) {
            switch (code) {
                case W_OR:
                    return OR_RANK;
                case W_AND:
                    return AND_RANK;
                case W_NOT:
                    return NOT_RANK;
                case '=':
                case '#':
                case '<':
                case '>':
                case AT_MOST:
                case AT_LEAST:
                    return COMPARE_RANK;
                case '+':
                case '-':
                    return SUM_RANK;
                case '*':
                case '/':
                case W_REM:
                    return PRODUCT_RANK;
                case MINUS:
                    return MINUS_RANK;
                case W_ON:
                    return ON_RANK;
                case W_OF:
                    return OF_RANK;
                default:
                    return 0;
            }
        }

        private int topRank() {
            return ops > 0 ? rankOf(op[CODE][ops - 1]) : 0;
        }

        /** Comparisons and "on" stand alone among their like. */
        private boolean mayFollow(int rank) {
            return topRank() != rank || rank != COMPARE_RANK && rank != ON_RANK;
        }

        /** Makes PARTS of the operators on top that a TOKEN of a rank leaves whole. */
        private boolean combine(int rank) {
            for (int turn = 0; turn <= Tape.MOST_TOKENS; turn++) {
                int top = topRank();
                boolean chained = rank <= AND_RANK || rank == SUM_RANK || rank == PRODUCT_RANK;
                if (top < rank || top == rank && !chained || top == 0) {
                    return true;
                }
                if (!makeOperation()) {
                    return false;
                }
            }
            return false;
        }

        private boolean makeOperation() {
            int code = op[CODE][ops - 1];
            int place = op[PLACE][ops - 1];
            boolean single = code == W_NOT || code == MINUS;
            int right = single ? NONE : whole[wholes - 1];
            int left = whole[single ? wholes - 1 : wholes - 2];
            int leftKind = laws.part[KIND][left];
            int kind = single ? Values.kindOfOne(code, leftKind)
                    : Values.kindOfTwo(code, leftKind, laws.part[KIND][right]);
            if (single || code == W_OF || code == W_ON) {
                open--;
            }
            ops--;
            wholes -= single ? 1 : 2;
            return makePart(place, code, kind, NONE, left, right, NONE);
        }

        /** A PART that is whole, with what is wrong with it. */
        private boolean makePart(int place, int code, int kind, int named, int left, int right, int third) {
            if (kind < 0) {
                return tape.fail(T_KIND, place);
            }
            int made = laws.addPart(code, kind, named, left, right, third);
            if (made < 0) {
                return tape.fail(T_HEIGHT, place);
            }
            whole[wholes] = made;
            wholes++;
            return true;
        }

        /** Something that waits behind the TOKEN which is here till it is whole; most of it counts as open. */
        private boolean push(int code, int place, boolean opens) {
            if (opens && open >= MOST_OPEN) {
                return tape.failHere(T_ROOM);
            }
            open += opens ? 1 : 0;
            op[CODE][ops] = code;
            op[PLACE][ops] = place;
            op[WITH_NAME][ops] = NONE;
            op[COMMAS][ops] = 0;
            ops++;
            return tape.take();
        }

        /** What an operand begins with; when it is whole at once it is one more of the wholes. */
        private boolean readOperand() {
            int code = tape.here();
            int place = tape.placeHere();
            int top = topRank();
            switch (code) {
                case W_NOT:
                    return top > NOT_RANK ? tape.failSyntax() : push(W_NOT, place, true);
                case '-':
                    return top > MINUS_RANK ? tape.failSyntax() : push(MINUS, place, true);
                case '(':
                    return push('(', place, true);
                case NUMBER:
                case MONEYS:
                case DATES:
                case W_TRUE:
                case W_FALSE:
                    return readConstant() && makeConstant(place);
                case W_DAY:
                    return tape.take() && makePart(place, code, DATE, NONE, NONE, NONE, NONE);
                case W_SELF:
                case W_STATE:
                    return tape.take() && makePart(place, code, PERSON, NONE, NONE, NONE, NONE);
                case WORD:
                    return readNamed(place);
                case W_HAS:
                    return readHas(place);
                case W_LEVEL:
                case W_SLICES:
                case W_BETWEEN:
                    return readTableReading(code, place);
                default:
                    if (arityOf(code) == 0) {
                        return tape.failSyntax();
                    }
                    return tape.take() && (tape.here() == '(' ? push(code, place, true) : tape.failSyntax());
            }
        }

        private boolean makeConstant(int place) {
            if (!makePart(place, CONSTANT, constantKind, NONE, NONE, NONE, NONE)) {
                return false;
            }
            laws.constant[0][whole[wholes - 1]] = constantA;
            laws.constant[1][whole[wholes - 1]] = constantB;
            return true;
        }

        private boolean readNamed(int place) {
            int name = names.find(tape);
            boolean term = names.isTerm(name);
            if (!term && !names.isFact(name)) {
                return tape.failHere(T_NAME);
            }
            return tape.take()
                    && makePart(place, term ? TERM_NAME : FACT_NAME, names.kind[name], name, NONE, NONE, NONE);
        }

        private boolean readHas(int place) {
            if (!tape.take()) {
                return false;
            }
            if (tape.here() == '(' && open >= MOST_OPEN) {
                return tape.failHere(T_ROOM);
            }
            if (!tape.expect('(')) {
                return false;
            }
            if (tape.here() != WORD) {
                return tape.failSyntax();
            }
            int name = names.find(tape);
            if (!names.isFact(name)) {
                return tape.failHere(T_NAME);
            }
            return tape.take() && tape.expect(')') && makePart(place, W_HAS, TRUTH, name, NONE, NONE, NONE);
        }

        private boolean readTableReading(int code, int place) {
            if (!tape.take()) {
                return false;
            }
            if (tape.here() != '(') {
                return tape.failSyntax();
            }
            if (!push(code, place, true)) {
                return false;
            }
            if (tape.here() != WORD) {
                return tape.failSyntax();
            }
            int table = names.find(tape);
            if (!names.isTable(table)) {
                return tape.failHere(T_NAME);
            }
            op[WITH_NAME][ops - 1] = table;
            return tape.take() && tape.expect(',');
        }

        /** How many exs a function has, or a set ahead of its NAME; 0 for what is neither. */
        private static int arityOf(int code) {
            switch (code) {
                case W_IF:
                case W_DATE:
                case W_OVER:
                    return 3;
                case W_FULLYEARS:
                case W_FULLMONTHS:
                case W_DAYSTO:
                case W_LEAST:
                case W_MOST:
                case W_UP:
                case W_DOWN:
                case W_NEAR:
                case W_EVEN:
                    return 2;
                case W_FIRST:
                case W_LAST:
                case W_YEAROF:
                case W_MONTHOF:
                case W_DAYOF:
                case W_WEEKDAY:
                case W_WORKING:
                case W_DUE:
                case W_SIZE:
                case W_REAL:
                case W_ROOT:
                case W_CENTS:
                case W_WHOLE:
                case W_LEVEL:
                case W_SLICES:
                case W_BETWEEN:
                    return 1;
                default:
                    return isSet(code) ? 1 : 0;
            }
        }

        private static boolean isSet(int code) {
            return code == W_SUM || code == W_COUNT || code == W_ANY || code == W_ALL || code == W_GREATEST
                    || code == W_SMALLEST;
        }

        /** Whether the bracket on top has one more ex to come. */
        private boolean wantsMore() {
            return op[COMMAS][ops - 1] + 1 < arityOf(op[CODE][ops - 1]);
        }

        private boolean readComma() {
            op[COMMAS][ops - 1]++;
            return tape.take();
        }

        /** The end of the bracket on top, of which the last ex is whole. */
        private boolean readClose() {
            int code = op[CODE][ops - 1];
            int named = op[WITH_NAME][ops - 1];
            if (isSet(code)) {
                named = readMembers();
                if (named == REFUSED) {
                    return false;
                }
            } else if (wantsMore()) {
                return tape.failSyntax();
            }
            if (!tape.expect(')')) {
                return false;
            }
            int place = op[PLACE][ops - 1];
            ops--;
            open--;
            return code == '(' || makeFunction(place, code, named);
        }

        /** Behind the ex of a set: the FACT, NONE for "together", or REFUSED with a FAULT. */
        private int readMembers() {
            if (!tape.expect(',')) {
                return REFUSED;
            }
            if (tape.here() == W_TOGETHER) {
                return tape.take() ? NONE : REFUSED;
            }
            if (tape.here() != WORD) {
                tape.failSyntax();
                return REFUSED;
            }
            int name = names.find(tape);
            if (!names.isFact(name) || names.kind[name] != PERSON) {
                tape.failHere(T_NAME);
                return REFUSED;
            }
            return tape.take() ? name : REFUSED;
        }

        private boolean makeFunction(int place, int code, int named) {
            int many = arityOf(code);
            int left = whole[wholes - many];
            int right = many > 1 ? whole[wholes - many + 1] : NONE;
            int third = many > 2 ? whole[wholes - 1] : NONE;
            int leftKind = laws.part[KIND][left];
            int kind;
            if (many == 3) {
                kind = Values.kindOfThree(code, leftKind, laws.part[KIND][right], laws.part[KIND][third]);
            } else if (many == 2) {
                kind = Values.kindOfTwo(code, leftKind, laws.part[KIND][right]);
            } else if (code == W_LEVEL || code == W_SLICES || code == W_BETWEEN) {
                kind = Values.kindOfReading(code, names.kind[named], leftKind);
            } else {
                kind = Values.kindOfOne(code, leftKind);
            }
            wholes -= many;
            return makePart(place, code, kind, named, left, right, third);
        }
    }

    /**
     * Reckons, with rows of its own instead of recursion: what is being worked out (PARTS, TERMS, RULES) stands in
     * frames, one above the other; what came out last in a and b, and whether a RULE HELD in holds. It keeps the
     * REASONS and the latest FAULT.
     */
    private static final class Reckoner {
        static final int MOST_LINES = 300;
        private static final int MOST_STEPS = 10000;
        private static final int MOST_TERMS = 12;
        private static final int MOST_EXCEPTIONS = 6;
        private static final int MOST_FIRSTS = 60;
        private static final int MOST_FRAMES = 320;
        private static final int MOST_TURNS = 1000000;
        /** Sorts of frames beside those of PARTS, which have their codes. */
        private static final int OF_TERM = -1;
        private static final int OF_RULE = -2;
        /** Columns of a frame; WHAT is a PART, a TERM, or a RULE's place among those in force. */
        private static final int SORT = 0;
        private static final int WHAT = 1;
        private static final int STAGE = 2;
        private static final int SELF = 3;
        private static final int ON_DAY = 4;
        private static final int AT_LINE = 5;
        private static final int NEXT = 6;
        private static final int EXCEPTIONS = 7;
        private static final int RULE_KEY = 8;
        /** Columns of what a frame holds: VALUES that came out, how many HELD, who belongs to a set, a DAY. */
        private static final int X = 0;
        private static final int Y = 1;
        private static final int HELD = 2;
        private static final int REST = 3;
        /** Columns of LINES, as why() tells them, and whether there is a VALUE. */
        private static final int L_SORT = 0;
        private static final int L_DEPTH = 1;
        private static final int L_NAME = 2;
        private static final int L_PERSON = 3;
        private static final int L_DAY = 4;
        private static final int L_ARTICLE = 5;
        private static final int L_NUMBER = 6;
        private static final int L_STATE = 7;
        static final int L_VALUED = 8;

        private final Names names;
        private final People people;
        private final Laws laws;
        private final Values values;
        private final int[][] frame = new int[MOST_FRAMES][9];
        private final long[][] held = new long[MOST_FRAMES][4];
        private int top;
        private final int[] openTerm = new int[MOST_TERMS];
        private int termsOpen;
        private int law;
        private int known;
        private boolean telling;
        private boolean holds;
        private int fault;
        long a;
        long b;
        int steps;
        final int[][] line = new int[9][MOST_LINES];
        final long[][] lineValue = new long[2][MOST_LINES];
        int lines;
        /** The latest FAULT, its TERM, PERSON, DAY, article, number. */
        final int[] failure = new int[6];

        Reckoner(Names names, People people, Laws laws, Values values) {
            this.names = names;
            this.people = people;
            this.laws = laws;
            this.values = values;
            Arrays.fill(failure, NONE);
            failure[0] = 0;
            failure[5] = 0;
        }

        /** Ahead of all reckonings of a call. */
        void start(boolean withReasons, boolean withSuppositions) {
            telling = withReasons;
            people.supposing = withSuppositions;
            steps = 0;
            if (withReasons) {
                lines = 0;
            }
        }

        int keptLines() {
            return Math.min(lines, MOST_LINES);
        }

        /** The FAULT that ends it, or 0 with the VALUE in a and b. */
        int reckonTerm(int byLaw, int term, int person, int day, int knownOn) {
            law = byLaw;
            known = knownOn;
            fault = 0;
            beginTerm(term, person, day);
            run();
            return fault;
        }

        int reckonQuestion(int part, int byLaw, int person, int day, int knownOn) {
            law = byLaw;
            known = knownOn;
            fault = 0;
            begin(part, person, day);
            run();
            return fault;
        }

        private void run() {
            for (int turn = 0; turn < MOST_TURNS && top > 0 && fault == 0; turn++) {
                int[] f = frame[top - 1];
                long[] h = held[top - 1];
                switch (f[SORT]) {
                    case OF_TERM:
                        resumeTerm(f, h);
                        break;
                    case OF_RULE:
                        resumeRule(f, h);
                        break;
                    case W_SUM:
                    case W_COUNT:
                    case W_ANY:
                    case W_ALL:
                    case W_GREATEST:
                    case W_SMALLEST:
                        resumeSet(f, h);
                        break;
                    case W_OVER:
                        resumeOver(f, h);
                        break;
                    case W_LEVEL:
                    case W_SLICES:
                    case W_BETWEEN:
                        resumeReading(f);
                        break;
                    default:
                        f[STAGE]++;
                        if (f[STAGE] == 1) {
                            beginFirst(f);
                        } else if (f[STAGE] == 2) {
                            behindFirst(f, h);
                        } else {
                            behindSecond(f, h);
                        }
                        break;
                }
            }
            top = 0;
            termsOpen = 0;
        }

        /** The FAULT, with the innermost TERM that is open and the innermost RULE of it. */
        void raise(int what) {
            fault = what;
            Arrays.fill(failure, NONE);
            failure[0] = what;
            failure[5] = 0;
            for (int i = top - 1; i >= 0; i--) {
                int[] f = frame[i];
                if (f[SORT] == OF_RULE && failure[5] == 0) {
                    failure[4] = f[RULE_KEY] >> 7;
                    failure[5] = f[RULE_KEY] & 127;
                }
                if (f[SORT] == OF_TERM) {
                    failure[1] = f[WHAT];
                    failure[2] = f[SELF];
                    failure[3] = f[ON_DAY];
                    return;
                }
            }
        }

        private int[] push(int sort, int what, int self, int day) {
            int[] f = frame[Math.min(top, MOST_FRAMES - 1)];
            long[] h = held[Math.min(top, MOST_FRAMES - 1)];
            Arrays.fill(h, 0L);
            f[SORT] = sort;
            f[WHAT] = what;
            f[STAGE] = 0;
            f[SELF] = self;
            f[ON_DAY] = day;
            top = Math.min(top + 1, MOST_FRAMES);
            return f;
        }

        /** What is on top is worked out. */
        private void pop(long first, long second) {
            a = first;
            b = second;
            top--;
        }

        private int openLine(int sort, int name, int person, int day, int key) {
            if (!telling) {
                return NONE;
            }
            lines++;
            int at = lines - 1;
            if (at >= MOST_LINES) {
                return NONE;
            }
            line[L_SORT][at] = sort;
            line[L_DEPTH][at] = termsOpen;
            line[L_NAME][at] = name;
            line[L_PERSON][at] = person;
            line[L_DAY][at] = day;
            line[L_ARTICLE][at] = key < 0 ? NONE : key >> 7;
            line[L_NUMBER][at] = key < 0 ? 0 : key & 127;
            line[L_STATE][at] = 0;
            line[L_VALUED][at] = 0;
            lineValue[0][at] = 0;
            lineValue[1][at] = 0;
            return at;
        }

        private void closeLine(int at, int state, long first, long second) {
            if (at >= 0) {
                line[L_STATE][at] = state;
                line[L_VALUED][at] = 1;
                lineValue[0][at] = first;
                lineValue[1][at] = second;
            }
        }

        /** A PART begins; a small one is worked out at once, another one is on top then. */
        private void begin(int part, int self, int day) {
            if (steps >= MOST_STEPS) {
                raise(F_LONG);
                return;
            }
            steps++;
            int code = laws.part[OP][part];
            int name = laws.part[NAMED][part];
            b = 0;
            switch (code) {
                case CONSTANT:
                    a = laws.constant[0][part];
                    b = laws.constant[1][part];
                    break;
                case W_DAY:
                    a = day;
                    break;
                case W_SELF:
                    a = self;
                    break;
                case W_STATE:
                    a = 0;
                    break;
                case W_HAS:
                    a = people.isTold(name, self, day, known) ? 1 : 0;
                    break;
                case FACT_NAME:
                    lookUp(name, self, day);
                    break;
                case TERM_NAME:
                    beginTerm(name, self, day);
                    break;
                default:
                    push(code, part, self, day);
                    break;
            }
        }

        private void lookUp(int name, int self, int day) {
            int at = openLine(3, name, self, day, NONE);
            if (people.isTold(name, self, day, known)) {
                a = people.a;
                b = people.b;
            } else if (names.hasElse[name]) {
                a = names.elseValue[0][name];
                b = names.elseValue[1][name];
            } else {
                raise(F_UNKNOWN);
                return;
            }
            closeLine(at, 0, a, b);
        }

        private void beginTerm(int term, int self, int day) {
            for (int i = 0; i < termsOpen; i++) {
                int[] other = frame[openTerm[i]];
                if (other[WHAT] == term && other[SELF] == self && other[ON_DAY] == day) {
                    raise(F_RING);
                    return;
                }
            }
            if (termsOpen >= MOST_TERMS) {
                raise(F_DEEP);
                return;
            }
            int at = openLine(1, term, self, day, NONE);
            openTerm[termsOpen] = top;
            termsOpen++;
            push(OF_TERM, term, self, day)[AT_LINE] = at;
        }

        private void beginRule(int key, int what, int[] around, int exceptions) {
            if (exceptions > MOST_EXCEPTIONS) {
                raise(F_DEEP);
                return;
            }
            if (steps >= MOST_STEPS) {
                raise(F_LONG);
                return;
            }
            steps++;
            int term = frame[openTerm[termsOpen - 1]][WHAT];
            int[] f = push(OF_RULE, what, around[SELF], around[ON_DAY]);
            f[AT_LINE] = openLine(2, term, f[SELF], f[ON_DAY], key);
            f[RULE_KEY] = key;
            f[EXCEPTIONS] = exceptions;
        }

        private void resumeTerm(int[] f, long[] h) {
            Force table = laws.tableOf(law, f[ON_DAY], known);
            int term = f[WHAT];
            int next;
            if (f[STAGE] == 0) {
                f[STAGE] = 1;
                next = table.first[term];
            } else {
                if (!keepHeld(h)) {
                    return;
                }
                next = table.next[f[NEXT]];
            }
            f[NEXT] = next;
            if (next >= 0) {
                beginRule(table.key[next], next, f, 0);
                return;
            }
            if (h[HELD] == 0) {
                if (!names.hasElse[term]) {
                    raise(F_NONE);
                    return;
                }
                h[X] = names.elseValue[0][term];
                h[Y] = names.elseValue[1][term];
            }
            closeLine(f[AT_LINE], 0, h[X], h[Y]);
            termsOpen--;
            pop(h[X], h[Y]);
        }

        /** What a RULE that came back gives, if it HOLDS; false when it is the second. */
        private boolean keepHeld(long[] h) {
            if (!holds) {
                return true;
            }
            if (h[HELD] != 0) {
                raise(F_CONFLICT);
                return false;
            }
            h[HELD] = 1;
            h[X] = a;
            h[Y] = b;
            return true;
        }

        private void resumeRule(int[] f, long[] h) {
            Force table = laws.tableOf(law, f[ON_DAY], known);
            int rule = table.rule[f[WHAT]];
            if (f[STAGE] == 3) {
                endRule(f, rule);
                return;
            }
            if (f[STAGE] == 2) {
                if (a == 0) {
                    holds = false;
                    pop(0, 0);
                    return;
                }
                f[STAGE] = 3;
                begin(laws.rule[EX][rule], f[SELF], f[ON_DAY]);
                return;
            }
            if (f[STAGE] == 1 && !keepHeld(h)) {
                return;
            }
            f[NEXT] = f[STAGE] == 0 ? table.exception[f[WHAT]] : table.next[f[NEXT]];
            f[STAGE] = 1;
            if (f[NEXT] >= 0) {
                beginRule(table.key[f[NEXT]], f[NEXT], f, f[EXCEPTIONS] + 1);
            } else if (h[HELD] != 0) {
                closeLine(f[AT_LINE], 2, h[X], h[Y]);
                holds = true;
                pop(h[X], h[Y]);
            } else {
                boolean always = laws.rule[WHEN][rule] < 0;
                f[STAGE] = always ? 3 : 2;
                begin(laws.rule[always ? EX : WHEN][rule], f[SELF], f[ON_DAY]);
            }
        }

        /** The ex of a RULE that HOLDS came out. */
        private void endRule(int[] f, int rule) {
            int term = laws.rule[OF_NAME][rule];
            int mode = names.mode[term];
            if (mode != 0) {
                int word = mode == 1 ? W_UP : mode == 2 ? W_DOWN : mode == 3 ? W_NEAR : W_EVEN;
                int wrong = values.round(word, a, names.cents[term]);
                if (wrong != 0) {
                    raise(wrong);
                    return;
                }
                a = values.a;
            }
            closeLine(f[AT_LINE], 1, a, b);
            holds = true;
            pop(a, b);
        }

        private void beginFirst(int[] f) {
            boolean rightFirst = f[SORT] == W_OF || f[SORT] == W_ON;
            begin(laws.part[rightFirst ? RIGHT : LEFT][f[WHAT]], f[SELF], f[ON_DAY]);
        }

        /** What came out as values have it, or the FAULT. */
        private void finish(int wrong) {
            if (wrong != 0) {
                raise(wrong);
            } else {
                pop(values.a, values.b);
            }
        }

        private void behindFirst(int[] f, long[] h) {
            int part = f[WHAT];
            int left = laws.part[LEFT][part];
            int right = laws.part[RIGHT][part];
            switch (f[SORT]) {
                case W_OF:
                    begin(left, (int) a, f[ON_DAY]);
                    break;
                case W_ON:
                    begin(left, f[SELF], (int) a);
                    break;
                case W_IF:
                    begin(a != 0 ? right : laws.part[THIRD][part], f[SELF], f[ON_DAY]);
                    break;
                case W_OR:
                case W_AND:
                    if (a == (f[SORT] == W_OR ? 1 : 0)) {
                        pop(a, 0);
                    } else {
                        begin(right, f[SELF], f[ON_DAY]);
                    }
                    break;
                default:
                    if (right < 0) {
                        finish(values.one(f[SORT], laws.part[KIND][left], a, b));
                    } else {
                        h[X] = a;
                        h[Y] = b;
                        begin(right, f[SELF], f[ON_DAY]);
                    }
                    break;
            }
        }

        /** Behind the second of two or three; what a date has for the third comes out here, too. */
        private void behindSecond(int[] f, long[] h) {
            int part = f[WHAT];
            switch (f[SORT]) {
                case W_OF:
                case W_ON:
                case W_IF:
                case W_OR:
                case W_AND:
                    pop(a, b);
                    break;
                case W_DATE:
                    if (f[STAGE] == 3) {
                        h[Y] = a;
                        begin(laws.part[THIRD][part], f[SELF], f[ON_DAY]);
                    } else {
                        finish(values.setDate(Calendar.dayOf((int) h[X], (int) h[Y], (int) a)));
                    }
                    break;
                default:
                    int leftKind = laws.part[KIND][laws.part[LEFT][part]];
                    int rightKind = laws.part[KIND][laws.part[RIGHT][part]];
                    finish(values.two(f[SORT], leftKind, h[X], h[Y], rightKind, a, b));
                    break;
            }
        }

        private void resumeSet(int[] f, long[] h) {
            int part = f[WHAT];
            int code = f[SORT];
            int kind = laws.part[KIND][part];
            int named = laws.part[NAMED][part];
            if (f[STAGE] == 0) {
                f[NEXT] = 0;
                h[X] = code == W_ALL ? 1 : 0;
                h[Y] = kind == RATE ? 1 : 0;
                h[REST] = named < 0 ? people.together(f[SELF], f[ON_DAY], known) : 0;
                f[STAGE] = 1;
            } else if (code != W_SUM) {
                gather(code, kind, h);
            } else if (!addTo(kind, h)) {
                return;
            }
            boolean decided = f[NEXT] > 0 && (code == W_ANY && h[X] == 1 || code == W_ALL && h[X] == 0);
            for (int person = f[NEXT]; person < people.size && !decided; person++) {
                if (steps >= MOST_STEPS) {
                    raise(F_LONG);
                    return;
                }
                steps++;
                boolean member = named < 0 ? (h[REST] >>> person & 1) != 0
                        : people.isTold(named, person, f[ON_DAY], known) && people.a == f[SELF];
                if (member) {
                    f[NEXT] = person + 1;
                    begin(laws.part[LEFT][part], person, f[ON_DAY]);
                    return;
                }
            }
            if (h[HELD] == 0 && (code == W_GREATEST || code == W_SMALLEST)) {
                raise(F_UNKNOWN);
            } else {
                pop(h[X], h[Y]);
            }
        }

        /** What came out for one of a set, that is no sum, joins what there is. */
        private void gather(int code, int kind, long[] h) {
            if (code == W_COUNT) {
                h[X] += a;
                return;
            }
            boolean takes = h[HELD] == 0 || code == W_ANY || code == W_ALL;
            if (!takes) {
                int order = Values.compare(kind, a, b, kind, h[X], h[Y]);
                takes = code == W_GREATEST ? order > 0 : order < 0;
            }
            if (takes) {
                h[X] = a;
                h[Y] = b;
            }
            h[HELD] = 1;
        }

        private boolean addTo(int kind, long[] h) {
            int wrong = values.plus(kind, h[X], h[Y], kind, a, b);
            if (wrong != 0) {
                raise(wrong);
                return false;
            }
            h[X] = values.a;
            h[Y] = values.b;
            return true;
        }

        /** NEXT counts the FIRSTS; REST is the last DAY, and HELD the month that comes. */
        private void resumeOver(int[] f, long[] h) {
            int part = f[WHAT];
            int kind = laws.part[KIND][part];
            if (f[STAGE] < 2) {
                h[X] = a;
                f[STAGE]++;
                begin(laws.part[f[STAGE] == 1 ? RIGHT : THIRD][part], f[SELF], f[ON_DAY]);
                return;
            }
            if (f[STAGE] == 2) {
                int from = (int) h[X];
                int month = Calendar.monthOf(from);
                h[HELD] = Calendar.firstOf(month) < from ? month + 1 : month;
                h[REST] = a;
                h[X] = 0;
                h[Y] = kind == RATE ? 1 : 0;
                f[NEXT] = 0;
                f[STAGE] = 3;
            } else if (!addTo(kind, h)) {
                return;
            }
            int first = Calendar.firstOf((int) h[HELD]);
            if (first > h[REST]) {
                pop(h[X], h[Y]);
            } else if (f[NEXT] >= MOST_FIRSTS) {
                raise(F_LONG);
            } else {
                f[NEXT]++;
                h[HELD]++;
                begin(laws.part[LEFT][part], f[SELF], first);
            }
        }

        private void resumeReading(int[] f) {
            int part = f[WHAT];
            if (f[STAGE] == 0) {
                f[STAGE] = 1;
                begin(laws.part[LEFT][part], f[SELF], f[ON_DAY]);
                return;
            }
            Force table = laws.tableOf(law, f[ON_DAY], known);
            int found = table.first[laws.part[NAMED][part]];
            if (found < 0) {
                raise(F_NONE);
                return;
            }
            int from = laws.rule[ROW_FROM][table.rule[found]];
            int end = from + laws.rule[ROW_COUNT][table.rule[found]];
            if (f[SORT] == W_LEVEL) {
                readLevel(from, end, laws.part[KIND][part]);
            } else if (f[SORT] == W_SLICES) {
                finish(sumSlices(from, end));
            } else {
                finish(values.setMoney(readBetween(from, end)));
            }
        }

        private void readLevel(int from, int end, int kind) {
            long first = 0;
            long second = kind == RATE ? 1 : 0;
            for (int i = from; i < end && laws.row[0][i] <= a; i++) {
                first = laws.row[1][i];
                second = laws.row[2][i];
            }
            pop(first, second);
        }

        private int sumSlices(int from, int end) {
            long sum = 0;
            int wrong = values.setMoney(0);
            for (int i = from; i < end && laws.row[0][i] < a && wrong == 0; i++) {
                long upTo = i + 1 < end ? Math.min(a, laws.row[0][i + 1]) : a;
                wrong = values.setMoney(Values.near((upTo - laws.row[0][i]) * laws.row[1][i], laws.row[2][i]));
                if (wrong == 0) {
                    sum += values.a;
                    wrong = values.setMoney(sum);
                }
            }
            return wrong;
        }

        private long readBetween(int from, int end) {
            int last = end - 1;
            if (a <= laws.row[0][from] || last == from) {
                return laws.row[1][from];
            }
            if (a >= laws.row[0][last]) {
                return laws.row[1][last];
            }
            int at = from;
            while (at + 1 < last && laws.row[0][at + 1] <= a) {
                at++;
            }
            long rise = laws.row[1][at + 1] - laws.row[1][at];
            long run = laws.row[0][at + 1] - laws.row[0][at];
            return laws.row[1][at] + Values.near(rise * (a - laws.row[0][at]), run);
        }
    }

    /** DECISIONS and BOOKINGS, what is paid and reminded of. */
    private static final class Ledger {
        private static final int MOST_DECISIONS = 30;
        static final int MOST_DECIDED = 24;
        private static final int MOST_BOOKINGS = 400;
        private static final int MOST_REMINDERS = 3;
        private static final int PAUSE = 14;
        private static final long MOST_CREDIT = 1000000000000000L;
        private static final int OPEN = 0;
        private static final int OBJECTED = 1;
        private static final int FINAL = 2;
        /** Columns of DECISIONS, as decision() tells them. */
        private static final int WHO = 0;
        private static final int OF_TERM = 1;
        private static final int FIRST = 2;
        private static final int MONTHS = 3;
        private static final int STANDS = 4;
        private static final int ENDS = 5;
        private static final int TAKEN = 6;
        /** Columns of BOOKINGS, as booking() tells them. */
        private static final int B_PERSON = 0;
        private static final int B_DECISION = 1;
        private static final int B_MONTH = 2;
        private static final int B_CENTS = 3;
        private static final int B_DUE = 4;
        private static final int B_SORT = 5;
        private static final int B_OPEN = 6;
        private static final int B_REMINDERS = 7;
        private static final int B_LATEST = 8;
        private static final int B_BARRED = 9;
        /** Sorts of BOOKINGS. */
        private static final int DECIDED = 0;
        private static final int REVISED = 1;
        private static final int INTEREST = 2;
        private static final int FEE = 3;

        private final Calendar calendar;
        private final Reckoner reckoner;
        final int[][] decision = new int[7][MOST_DECISIONS];
        final long[][] amounts = new long[MOST_DECISIONS][MOST_DECIDED];
        /** DUE of each month's first BOOKING. */
        private final int[][] firstDue = new int[MOST_DECISIONS][MOST_DECIDED];
        int decisions;
        private final long[][] booked = new long[10][MOST_BOOKINGS];
        int bookings;
        final long[] credits = new long[MOST_PEOPLE];
        int limit = 48;
        long interestOver = 1;
        long interestUnder = 200;
        int fee = 500;
        int bar = 60;
        /** What is reckoned month by month, till it is known that all goes well. */
        private final long[] fresh = new long[MOST_DECIDED];
        private final long[] interest = new long[MOST_DECIDED];
        private final int[] dues = new int[MOST_DECIDED];

        Ledger(Calendar calendar, Reckoner reckoner) {
            this.calendar = calendar;
            this.reckoner = reckoner;
        }

        boolean isDecision(int number) {
            return number >= 0 && number < decisions;
        }

        boolean hasMonth(int number, int month) {
            return month >= 0 && month < decision[MONTHS][number];
        }

        /** TODAY has passed: how many DECISIONS are FINAL by that; BOOKINGS that are too old are BARRED. */
        int passTime() {
            int many = 0;
            for (int i = 0; i < decisions; i++) {
                if (decision[STANDS][i] == OPEN && decision[ENDS][i] < calendar.today) {
                    decision[STANDS][i] = FINAL;
                    many++;
                }
            }
            for (int i = 0; i < bookings; i++) {
                if (booked[B_OPEN][i] > 0) {
                    int since = (int) Math.max(booked[B_DUE][i], booked[B_LATEST][i]);
                    int until = Calendar.shift(since, bar, 0);
                    if (until >= 0 && until < calendar.today) {
                        booked[B_BARRED][i] = 1;
                    }
                }
            }
            return many;
        }

        private static int firstOf(int first, int month) {
            return Calendar.firstOf(Calendar.monthOf(first) + month);
        }

        private int failOver() {
            reckoner.raise(F_OVER);
            return -10 - F_OVER;
        }

        int takeDecision(int person, int term, int first, int months) {
            if (decisions >= MOST_DECISIONS || bookings + months > MOST_BOOKINGS) {
                return FULL;
            }
            reckoner.start(false, false);
            int today = calendar.today;
            int ends = calendar.dueFrom(Calendar.shift(today, 1, 0));
            if (ends < 0) {
                return failOver();
            }
            for (int month = 0; month < months; month++) {
                int at = firstOf(first, month);
                dues[month] = calendar.dueFrom(Math.max(at, today));
                if (dues[month] < 0) {
                    return failOver();
                }
                int fault = reckoner.reckonTerm(0, term, person, at, today);
                if (fault != 0) {
                    return -10 - fault;
                }
                fresh[month] = reckoner.a;
            }
            int number = decisions;
            decision[WHO][number] = person;
            decision[OF_TERM][number] = term;
            decision[FIRST][number] = first;
            decision[MONTHS][number] = months;
            decision[STANDS][number] = OPEN;
            decision[ENDS][number] = ends;
            decision[TAKEN][number] = today;
            decisions++;
            for (int month = 0; month < months; month++) {
                amounts[number][month] = fresh[month];
                firstDue[number][month] = dues[month];
                book(number, month, fresh[month], dues[month], DECIDED);
            }
            settle(person);
            return number;
        }

        private void book(int number, int month, long cents, int due, int sort) {
            int person = decision[WHO][number];
            booked[B_PERSON][bookings] = person;
            booked[B_DECISION][bookings] = number;
            booked[B_MONTH][bookings] = month;
            booked[B_CENTS][bookings] = cents;
            booked[B_DUE][bookings] = due;
            booked[B_SORT][bookings] = sort;
            booked[B_OPEN][bookings] = Math.max(cents, 0);
            booked[B_REMINDERS][bookings] = 0;
            booked[B_LATEST][bookings] = NONE;
            booked[B_BARRED][bookings] = 0;
            bookings++;
            if (cents < 0) {
                credits[person] -= cents;
            }
        }

        /** CREDIT goes to what is OPEN, the least DUE first. */
        private void settle(int person) {
            for (int turn = 0; turn <= MOST_BOOKINGS && credits[person] > 0; turn++) {
                int found = NONE;
                for (int i = 0; i < bookings; i++) {
                    if (booked[B_PERSON][i] == person && booked[B_OPEN][i] > 0 && booked[B_BARRED][i] == 0
                            && (found < 0 || booked[B_DUE][i] < booked[B_DUE][found])) {
                        found = i;
                    }
                }
                if (found < 0) {
                    return;
                }
                long goes = Math.min(credits[person], booked[B_OPEN][found]);
                credits[person] -= goes;
                booked[B_OPEN][found] -= goes;
            }
        }

        boolean isObjected(int number) {
            return decision[STANDS][number] == OBJECTED;
        }

        boolean objectTo(int number) {
            if (decision[STANDS][number] != OPEN) {
                return false;
            }
            decision[STANDS][number] = OBJECTED;
            return true;
        }

        void endWith(int number) {
            decision[STANDS][number] = FINAL;
        }

        /** TO REVISE, in all months or in those that may be: how many changed, or what it is refused with. */
        int takeAnew(int number, boolean inAll) {
            reckoner.start(false, false);
            int today = calendar.today;
            int due = calendar.dueFrom(today);
            if (due < 0) {
                return failOver();
            }
            int months = decision[MONTHS][number];
            for (int month = 0; month < months; month++) {
                int at = firstOf(decision[FIRST][number], month);
                fresh[month] = amounts[number][month];
                int until = Calendar.shift(at, limit, 0);
                if (inAll || until < 0 || until >= today) {
                    int fault = reckoner.reckonTerm(0, decision[OF_TERM][number], decision[WHO][number], at, today);
                    if (fault != 0) {
                        return -10 - fault;
                    }
                    fresh[month] = reckoner.a;
                }
            }
            int more = weighChanges(number);
            if (more < 0) {
                return failOver();
            }
            return bookings + more > MOST_BOOKINGS ? FULL : bookChanges(number, due);
        }

        /** Reckons the interest; how many BOOKINGS come, or NONE when something is OVER. */
        private int weighChanges(int number) {
            int more = 0;
            for (int month = 0; month < decision[MONTHS][number]; month++) {
                long change = fresh[month] - amounts[number][month];
                interest[month] = NONE;
                if (change < 0 && decision[STANDS][number] == FINAL) {
                    fresh[month] = amounts[number][month];
                    change = 0;
                }
                if (Math.abs(change) > MOST_MONEY) {
                    return NONE;
                }
                int late = Calendar.fullMonths(firstDue[number][month], calendar.today);
                if (change > 0 && late > 0) {
                    long base = change * late;
                    interest[month] = base > MOST_MONEY ? base : Values.near(base * interestOver, interestUnder);
                    if (interest[month] > MOST_MONEY) {
                        return NONE;
                    }
                    more++;
                }
                more += change != 0 ? 1 : 0;
            }
            return more;
        }

        private int bookChanges(int number, int due) {
            int many = 0;
            for (int month = 0; month < decision[MONTHS][number]; month++) {
                long change = fresh[month] - amounts[number][month];
                if (change == 0) {
                    continue;
                }
                many++;
                amounts[number][month] = fresh[month];
                book(number, month, change, due, REVISED);
                if (interest[month] >= 0) {
                    book(number, month, interest[month], due, INTEREST);
                }
            }
            settle(decision[WHO][number]);
            return many;
        }

        long payIn(int person, long cents) {
            if (credits[person] + cents > MOST_CREDIT) {
                return FULL;
            }
            credits[person] += cents;
            settle(person);
            return credits[person];
        }

        private boolean mayBeReminded(int i, int person) {
            int today = calendar.today;
            boolean rested = booked[B_LATEST][i] < 0 || today - booked[B_LATEST][i] > PAUSE;
            return booked[B_PERSON][i] == person && booked[B_OPEN][i] > 0 && booked[B_SORT][i] != FEE
                    && booked[B_BARRED][i] == 0 && booked[B_REMINDERS][i] < MOST_REMINDERS
                    && today - booked[B_DUE][i] > PAUSE && rested;
        }

        int remindOf(int person) {
            int before = bookings;
            int many = 0;
            for (int i = 0; i < before; i++) {
                many += mayBeReminded(i, person) ? 1 : 0;
            }
            if (many == 0) {
                return 0;
            }
            int due = calendar.dueFrom(Calendar.shift(calendar.today, 0, PAUSE));
            if (due < 0) {
                return failOver();
            }
            if (before + many > MOST_BOOKINGS) {
                return FULL;
            }
            for (int i = 0; i < before; i++) {
                if (mayBeReminded(i, person)) {
                    booked[B_REMINDERS][i]++;
                    booked[B_LATEST][i] = calendar.today;
                    book((int) booked[B_DECISION][i], (int) booked[B_MONTH][i], fee * booked[B_REMINDERS][i], due, FEE);
                }
            }
            settle(person);
            return many;
        }

        long tellBooking(int i, int what) {
            if (i < 0 || i >= bookings || what < 0 || what > B_BARRED) {
                return Long.MIN_VALUE;
            }
            return booked[what][i];
        }

        long sumUntil(int person, int day) {
            long sum = 0;
            for (int i = 0; i < bookings; i++) {
                if (booked[B_PERSON][i] == person && booked[B_DUE][i] <= day) {
                    sum += booked[B_CENTS][i];
                }
            }
            return sum;
        }
    }

    /** Laws tried on PEOPLE, DAYS and numbers, and looks for gaps, conflicts and rings in them. */
    private static final class Study {
        static final int MOST_FORECAST = 60;
        private static final int MOST_CHANGES = 400;
        private static final int MOST_ATOMS = 8;
        private static final int MOST_TRIED_RULES = 40;
        private static final int MOST_EXCEPTIONS = 6;
        private static final int CONFLICTING = 2;

        private final Names names;
        private final People people;
        private final Laws laws;
        private final Values values;
        private final Reckoner reckoner;
        /** Of each CHANGE its DAY, FAULT and VALUE. */
        final long[][] change = new long[4][MOST_CHANGES];
        int changes;
        long solution;
        final long[] measures = new long[12];
        private final long[] mine = new long[MOST_PEOPLE];
        private final long[] theirs = new long[MOST_PEOPLE];
        private final int[] who = new int[MOST_PEOPLE];
        final long[][] ahead = new long[2][MOST_FORECAST];
        int monthsAhead;
        final int[] gap = new int[5];
        private final int[] atom = new int[MOST_ATOMS];
        private int atoms;
        private final int[] atomOf = new int[Laws.MOST_PARTS];
        private final long[] reach = new long[MOST_NAMES];

        Study(Names names, People people, Laws laws, Values values, Reckoner reckoner) {
            this.names = names;
            this.people = people;
            this.laws = laws;
            this.values = values;
            this.reckoner = reckoner;
            Arrays.fill(gap, NONE);
        }

        int findChanges(int law, int term, int person, int from, int to, int known) {
            reckoner.start(false, true);
            int many = 0;
            for (int day = from; day <= to; day++) {
                int fault = reckoner.reckonTerm(law, term, person, day, known);
                long first = fault != 0 ? 0 : reckoner.a;
                long second = fault != 0 ? 0 : reckoner.b;
                int last = many - 1;
                if (many == 0 || many < MOST_CHANGES && (change[1][last] != fault || change[2][last] != first
                        || change[3][last] != second)) {
                    change[0][many] = day;
                    change[1][many] = fault;
                    change[2][many] = first;
                    change[3][many] = second;
                    many++;
                }
            }
            changes = many;
            return many;
        }

        /** Halves what lies from low to high till one is left, which is tried at last. */
        int halve(int law, int term, int person, int day, int known, long low, long high) {
            long least = low;
            long most = high;
            for (int turn = 0; turn < 64; turn++) {
                boolean last = least >= most;
                long tried = last ? least : Math.floorDiv(least + most, 2L);
                people.presumeValue(tried);
                int fault = reckoner.reckonTerm(law, term, person, day, known);
                if (fault != 0) {
                    return -10 - fault;
                }
                if (last) {
                    solution = least;
                    return (int) reckoner.a;
                }
                if (reckoner.a != 0) {
                    most = tried;
                } else {
                    least = tried + 1;
                }
            }
            return 0;
        }

        int tryOnAll(int law, int other, int term, int day, int today) {
            reckoner.start(false, true);
            int many = 0;
            for (int person = 1; person < people.size; person++) {
                if (reckoner.reckonTerm(law, term, person, day, today) != 0) {
                    continue;
                }
                mine[many] = reckoner.a;
                if (other != NONE && reckoner.reckonTerm(other, term, person, day, today) != 0) {
                    continue;
                }
                theirs[many] = reckoner.a;
                who[many] = person;
                many++;
            }
            Arrays.fill(measures, 0L);
            measures[0] = many;
            measures[1] = people.size - 1 - many;
            if (many > 0) {
                weighAll(many);
                compareAll(many);
            }
            return many;
        }

        /** The sums, as whole numbers and as REALS; then mine is put in order for those that ask for it. */
        private void weighAll(int many) {
            double sum = 0.0;
            double weights = 0.0;
            for (int i = 0; i < many; i++) {
                double weight = people.weights[who[i]];
                sum += weight * mine[i];
                weights += weight;
                measures[2] += mine[i];
                if (theirs[i] > mine[i]) {
                    measures[8]++;
                    measures[10] += theirs[i] - mine[i];
                } else if (theirs[i] < mine[i]) {
                    measures[9]++;
                    measures[11] += mine[i] - theirs[i];
                }
            }
            values.setReal(sum / weights, 0);
            measures[6] = values.a;
        }

        private void compareAll(int many) {
            long apart = 0;
            for (int i = 1; i < many; i++) {
                long next = mine[i];
                int at = i;
                while (at > 0 && mine[at - 1] > next) {
                    mine[at] = mine[at - 1];
                    at--;
                }
                mine[at] = next;
            }
            for (int i = 0; i < many; i++) {
                for (int j = i + 1; j < many; j++) {
                    apart += mine[j] - mine[i];
                }
            }
            measures[3] = mine[0];
            measures[4] = mine[many - 1];
            measures[5] = mine[(many - 1) / 2];
            if (measures[2] > 0) {
                values.setReal((double) apart / (double) many / (double) measures[2], 0);
                measures[7] = values.a;
            }
        }

        int lookAhead(int law, int term, int first, int months, int today) {
            reckoner.start(false, true);
            int from = Calendar.monthOf(first);
            for (int month = 0; month < months; month++) {
                ahead[0][month] = 0;
                ahead[1][month] = 0;
                int day = Calendar.firstOf(from + month);
                for (int person = 1; person < people.size; person++) {
                    if (reckoner.reckonTerm(law, term, person, day, today) == 0) {
                        ahead[0][month] += reckoner.a;
                        ahead[1][month]++;
                    }
                }
            }
            monthsAhead = months;
            return months;
        }

        int findGaps(int law, int term, int day, int today) {
            Force table = laws.tableOf(law, day, today);
            int many = 0;
            atoms = 0;
            for (int i = 0; i < table.size; i++) {
                int rule = table.rule[i];
                if (laws.rule[OF_NAME][rule] == term) {
                    many++;
                    if (many > MOST_TRIED_RULES || !collect(laws.rule[WHEN][rule])) {
                        return FULL;
                    }
                }
            }
            int at = table.first[term];
            for (int i = 0; i < table.size && at >= 0; i++) {
                if (isTooDeep(table, at, 0)) {
                    return FULL;
                }
                at = table.next[at];
            }
            Arrays.fill(gap, NONE);
            gap[0] = atoms;
            gap[1] = 0;
            gap[2] = 0;
            for (int way = 0; way < 1 << atoms; way++) {
                int held = holdAmong(table, table.first[term], way);
                if (held != 1) {
                    int sort = held == CONFLICTING ? 2 : 1;
                    gap[sort]++;
                    gap[sort + 2] = gap[sort + 2] < 0 ? way : gap[sort + 2];
                }
            }
            return gap[1] + gap[2];
        }

        /** The ATOMS of a condition join those that there are; false when these are too many. */
        private boolean collect(int part) {
            if (part < 0) {
                return true;
            }
            int code = laws.part[OP][part];
            if (code == W_OR || code == W_AND || code == W_NOT) {
                return collect(laws.part[LEFT][part]) && collect(laws.part[RIGHT][part]);
            }
            int found = 0;
            while (found < atoms && !laws.areAlike(atom[found], part)) {
                found++;
            }
            if (found == MOST_ATOMS) {
                return false;
            }
            atom[found] = part;
            atomOf[part] = found;
            atoms = Math.max(atoms, found + 1);
            return true;
        }

        private boolean isTooDeep(Force table, int at, int exceptions) {
            if (exceptions > MOST_EXCEPTIONS) {
                return true;
            }
            int next = table.exception[at];
            for (int i = 0; i < table.size && next >= 0; i++) {
                if (isTooDeep(table, next, exceptions + 1)) {
                    return true;
                }
                next = table.next[next];
            }
            return false;
        }

        /** How many of a chain of RULES HOLD in one way, or CONFLICTING. */
        private int holdAmong(Force table, int first, int way) {
            int held = 0;
            int at = first;
            for (int i = 0; i < table.size && at >= 0 && held < CONFLICTING; i++) {
                int over = holdAmong(table, table.exception[at], way);
                if (over == CONFLICTING) {
                    return CONFLICTING;
                }
                if (over == 1 || isTrue(laws.rule[WHEN][table.rule[at]], way)) {
                    held++;
                }
                at = table.next[at];
            }
            return held;
        }

        private boolean isTrue(int part, int way) {
            if (part < 0) {
                return true;
            }
            switch (laws.part[OP][part]) {
                case W_OR:
                    return isTrue(laws.part[LEFT][part], way) || isTrue(laws.part[RIGHT][part], way);
                case W_AND:
                    return isTrue(laws.part[LEFT][part], way) && isTrue(laws.part[RIGHT][part], way);
                case W_NOT:
                    return !isTrue(laws.part[LEFT][part], way);
                default:
                    return (way >> atomOf[part] & 1) != 0;
            }
        }

        int findRing(int law, int day, int today) {
            Force table = laws.tableOf(law, day, today);
            Arrays.fill(reach, 0L);
            for (int i = 0; i < table.size; i++) {
                int rule = table.rule[i];
                reach[laws.rule[OF_NAME][rule]] |= laws.termsIn(laws.rule[EX][rule]) | laws.termsIn(laws.rule[WHEN][rule]);
            }
            for (int over = 0; over < names.size; over++) {
                for (int from = 0; from < names.size; from++) {
                    if ((reach[from] >>> over & 1) != 0) {
                        reach[from] |= reach[over];
                    }
                }
            }
            for (int term = 0; term < names.size; term++) {
                if ((reach[term] >>> term & 1) != 0) {
                    return term;
                }
            }
            return NONE;
        }
    }

    /** OUT: laws and REASONS written as texts; and laws compared as they would be written. */
    private static final class Writer {
        private static final int MOST_BYTES = 12000;
        private static final int MOST_DIFFERENCES = 2 * Laws.MOST_VERSIONS;

        private final Names names;
        private final Laws laws;
        private final Reckoner reckoner;
        private final Tape tape;
        byte[] text = new byte[MOST_BYTES];
        int size;
        /** What is being written, and how many bytes it would have. */
        private byte[] draft = new byte[MOST_BYTES];
        private int length;
        private final int[][] picked = new int[2][Laws.MOST_VERSIONS + 1];
        /** Of both sides that are compared how many VERSIONS, and the DAYS. */
        private final int[] many = new int[2];
        private final int[] days = new int[2];
        private final int[] knowns = new int[2];
        final int[] different = new int[MOST_DIFFERENCES];
        int differences;

        Writer(Names names, Laws laws, Reckoner reckoner, Tape tape) {
            this.names = names;
            this.laws = laws;
            this.reckoner = reckoner;
            this.tape = tape;
        }

        private void put(int c) {
            if (length < MOST_BYTES) {
                draft[length] = (byte) c;
            }
            length++;
        }

        private void putText(String words) {
            for (int i = 0; i < words.length(); i++) {
                put(words.charAt(i));
            }
        }

        private void putWord(int word) {
            for (int i = tape.wordFrom(word); i < tape.wordUntil(word); i++) {
                put(WORDS.charAt(i));
            }
        }

        private void putName(int name) {
            for (int i = 0; i < names.length[name]; i++) {
                put(names.letters[name][i]);
            }
        }

        /** Below 0 throughout, as the least number has no other sign. */
        private void putNumber(long number) {
            long below = number > 0 ? -number : number;
            if (number < 0) {
                put('-');
            }
            long unit = 1;
            for (int i = 0; i < 18 && below / unit <= -10; i++) {
                unit *= 10;
            }
            for (; unit > 0; unit /= 10) {
                put((int) ('0' - below / unit % 10));
            }
        }

        private void putTwo(long number) {
            put((int) ('0' + number / 10 % 10));
            put((int) ('0' + number % 10));
        }

        private void putMoney(long cents) {
            if (cents < 0) {
                put('-');
            }
            long size = Math.abs(cents);
            putNumber(size / 100);
            put('.');
            putTwo(size % 100);
        }

        private void putDate(int day) {
            int month = Calendar.monthOf(day);
            putNumber(month / 12);
            put('-');
            putTwo(month % 12 + 1);
            put('-');
            putTwo(day - Calendar.firstOf(month) + 1);
        }

        private void putAddress(int article) {
            putNumber(article / 27);
            if (article % 27 > 0) {
                put('a' + article % 27 - 1);
            }
        }

        /** What was written is OUT, if it is not too long: how many bytes. */
        private int keep() {
            if (length > MOST_BYTES) {
                return FULL;
            }
            byte[] before = text;
            text = draft;
            draft = before;
            size = length;
            return size;
        }

        int tellReasons() {
            length = 0;
            for (int i = 0; i < reckoner.keptLines(); i++) {
                for (int blank = 0; blank < reckoner.line[1][i]; blank++) {
                    put(' ');
                }
                int sort = reckoner.line[0][i];
                int name = reckoner.line[2][i];
                int state = reckoner.line[7][i];
                if (sort == 2) {
                    putAddress(reckoner.line[5][i]);
                    put('/');
                    putNumber(reckoner.line[6][i]);
                    putText(state == 0 ? ": no" : state == 1 ? ": " : ": gives way: ");
                } else {
                    putText(sort == 3 ? "= " : "");
                    putName(name);
                    putText(" of ");
                    putNumber(reckoner.line[3][i]);
                    putText(" on ");
                    putDate(reckoner.line[4][i]);
                    putText(": ");
                }
                if (reckoner.line[Reckoner.L_VALUED][i] != 0) {
                    putValue(names.kind[name], reckoner.lineValue[0][i], reckoner.lineValue[1][i], false);
                } else if (sort != 2) {
                    putText("none");
                }
                put('\n');
            }
            return keep();
        }

        /** A VALUE as tell() has it, or as the constant that a law has for it. */
        private void putValue(int kind, long a, long b, boolean asConstant) {
            switch (kind) {
                case TRUTH:
                    putText(a != 0 ? "true" : "false");
                    break;
                case MONEY:
                    putMoney(a);
                    break;
                case DATE:
                    putDate((int) a);
                    break;
                case RATE:
                    putNumber(asConstant && b != 0 ? a * 100 / b : a);
                    put(asConstant ? '%' : '/');
                    if (!asConstant) {
                        putNumber(b);
                    }
                    break;
                case SPAN:
                    if (!asConstant || a != 0) {
                        putNumber(a);
                        putText(asConstant ? " months" : " months ");
                    }
                    if (!asConstant || a == 0) {
                        putNumber(b);
                        putText(" days");
                    }
                    break;
                default:
                    putNumber(a);
                    break;
            }
        }

        int writeLaw(int law, int day, int known) {
            length = 0;
            int found = laws.pick(law, day, known, picked[0]);
            for (int i = 0; i < found; i++) {
                int version = picked[0][i];
                int rules = laws.version[RULE_COUNT][version];
                if (rules > 0) {
                    putText("article ");
                    putAddress(laws.version[ARTICLE][version]);
                    putText(" {\n");
                    for (int j = 0; j < rules; j++) {
                        putRule(laws.ruleAt(version, j, day, known));
                    }
                    putText("}\n");
                }
            }
            return keep();
        }

        private void putRule(int rule) {
            if (rule < 0) {
                putText("void;\n");
                return;
            }
            int name = laws.rule[OF_NAME][rule];
            if (laws.rule[EX][rule] < 0) {
                putText("table ");
                putName(name);
                putText(" {");
                putRows(laws.rule[ROW_FROM][rule], laws.rule[ROW_COUNT][rule], names.kind[name]);
                putText(" }\n");
                return;
            }
            if (laws.rule[EXCEPTED][rule] >= 0) {
                putText("except ");
                putAddress(laws.rule[EXCEPTED][rule]);
                put('/');
                putNumber(laws.rule[EXCEPTED_NUMBER][rule]);
                putText(": ");
            }
            putName(name);
            putText(" is ");
            putEx(laws.rule[EX][rule]);
            if (laws.rule[WHEN][rule] >= 0) {
                putText(" when ");
                putEx(laws.rule[WHEN][rule]);
            }
            putText(";\n");
        }

        private void putRows(int from, int rows, int kind) {
            for (int i = from; i < from + rows; i++) {
                put(' ');
                putMoney(laws.row[0][i]);
                putText(": ");
                putValue(kind, laws.row[1][i], laws.row[2][i], true);
                put(';');
            }
        }

        /** An ex; PARTS are at most 16 high, so it goes no deeper. */
        private void putEx(int part) {
            int code = laws.part[OP][part];
            int named = laws.part[NAMED][part];
            int right = laws.part[RIGHT][part];
            if (code == CONSTANT) {
                putValue(laws.part[KIND][part], laws.constant[0][part], laws.constant[1][part], true);
            } else if (code == FACT_NAME || code == TERM_NAME) {
                putName(named);
            } else if (code == W_DAY || code == W_SELF || code == W_STATE) {
                putWord(code);
            } else if (code == W_NOT || code == MINUS) {
                putText(code == W_NOT ? "(not " : "(- ");
                putEx(laws.part[LEFT][part]);
                put(')');
            } else if (Reader.rankOf(code) > 0) {
                put('(');
                putEx(laws.part[LEFT][part]);
                putOperator(code);
                putEx(right);
                put(')');
            } else {
                putFunction(part, code, named);
            }
        }

        private void putOperator(int code) {
            put(' ');
            if (code >= FIRST_WORD) {
                putWord(code);
            } else if (code == AT_MOST || code == AT_LEAST) {
                putText(code == AT_MOST ? "<=" : ">=");
            } else {
                put(code);
            }
            put(' ');
        }

        private void putFunction(int part, int code, int named) {
            boolean reads = code == W_LEVEL || code == W_SLICES || code == W_BETWEEN;
            putWord(code);
            put('(');
            if (code == W_HAS || reads) {
                putName(named);
                putText(reads ? ", " : "");
            }
            if (laws.part[LEFT][part] >= 0) {
                putEx(laws.part[LEFT][part]);
            }
            for (int column = RIGHT; column <= THIRD; column++) {
                if (laws.part[column][part] >= 0) {
                    putText(", ");
                    putEx(laws.part[column][part]);
                }
            }
            if (Reader.isSet(code)) {
                putText(", ");
                if (named < 0) {
                    putWord(W_TOGETHER);
                } else {
                    putName(named);
                }
            }
            put(')');
        }

        void pickSide(int side, int law, int day, int known) {
            many[side] = laws.pick(law, day, known, picked[side]);
            days[side] = day;
            knowns[side] = known;
        }

        /** Goes through the articles of both sides in order. */
        int compareSides() {
            differences = 0;
            int left = 0;
            int right = 0;
            for (int turn = 0; turn < MOST_DIFFERENCES && (left < many[0] || right < many[1]); turn++) {
                int here = left < many[0] ? laws.version[ARTICLE][picked[0][left]] : Integer.MAX_VALUE;
                int there = right < many[1] ? laws.version[ARTICLE][picked[1][right]] : Integer.MAX_VALUE;
                int article = Math.min(here, there);
                int one = here == article ? picked[0][left] : NONE;
                int other = there == article ? picked[1][right] : NONE;
                if (!areRulesAlike(one, other)) {
                    different[differences] = article;
                    differences++;
                }
                left += here == article ? 1 : 0;
                right += there == article ? 1 : 0;
            }
            return differences;
        }

        /** Of two VERSIONS, or NONE, one of each side. */
        private boolean areRulesAlike(int one, int other) {
            int rules = one < 0 ? 0 : laws.version[RULE_COUNT][one];
            if (rules != (other < 0 ? 0 : laws.version[RULE_COUNT][other])) {
                return false;
            }
            for (int i = 0; i < rules; i++) {
                int left = laws.ruleAt(one, i, days[0], knowns[0]);
                int right = laws.ruleAt(other, i, days[1], knowns[1]);
                if (!laws.areRulesAlike(left, right)) {
                    return false;
                }
            }
            return true;
        }
    }
}
