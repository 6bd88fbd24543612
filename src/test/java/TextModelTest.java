import java.util.ArrayList;
import java.util.List;
import java.util.regex.Matcher;
import java.util.regex.Pattern;

/**
 * Whole texts of all sorts made by a fixed rule, most of them spoiled in a byte or a word, held against a second reader by
 * descent: how many things they tell, or the FAULT's KIND and PLACE.
 */
public final class TextModelTest {
    private static final int NONE = -1;
    private static final int SYNTAX = 1;
    private static final int NAME = 2;
    private static final int RANGE = 3;
    private static final int ROOM = 4;
    private static final int KIND = 5;
    private static final int LACK = 7;
    private static final int PEOPLE = 4;
    private static final String[] KINDS = {"truth", "count", "money", "rate", "date", "span", "real", "person"};
    private static final Pattern BLANKS = Pattern.compile("(?:[ \n]|'[^\n]*)*");
    private static final Pattern TOKEN = Pattern.compile("[a-z][a-z0-9_]*|(?<!\\d)\\d{4}-\\d\\d-\\d\\d|\\d{1,9}\\.\\d\\d|\\d+"
            + "|<=|>=|[(){},;:/*+\\-%=#<>]");
    private static final Check CHECK = new Check();
    private static final Maker MAKER = new Maker(2);
    private static final int[] FAULTS = new int[8];
    /** Of each VERSION of LAW 0: its article, from which DAY, and how many RULES. */
    private static final List<int[]> VERSIONS = new ArrayList<>();

    public static void main(String[] args) {
        CHECK.furnished(PEOPLE);
        for (int i = 0; i < 12000; i++) {
            if (CHECK.house.count(8) > 150 || CHECK.house.count(15) > 6000 || CHECK.house.count(3) > 250
                    || CHECK.house.count(17) > 350 || CHECK.house.count(18) > 400) {
                CHECK.furnished(PEOPLE);
                VERSIONS.clear();
            }
            switch (MAKER.next(4)) {
                case 0:
                    StatuteHouse before = CHECK.house;
                    CHECK.fresh();
                    hold(0, spoiled(names()));
                    CHECK.house = before;
                    break;
                case 1:
                    hold(1, spoiled(holidays()));
                    break;
                case 2:
                    hold(2, spoiled(laws()));
                    break;
                default:
                    hold(3, spoiled(facts()));
                    break;
            }
        }
        for (int i = 0; i < FAULTS.length; i++) {
            CHECK.due("many texts with " + i, i == 6 || FAULTS[i] > 30 ? 1 : FAULTS[i], 1);
        }
        CHECK.end("TextModelTest");
    }

    private static String any(String... words) {
        return words[MAKER.next(words.length)];
    }

    private static String constant() {
        return any("5", "-7", "20%", "10000%", "10001%", "3 days", "- 65535 days", "65536 days", "2 months", "2401 months",
                "1 years", "201 years", "1.00", "-0.50", "2000-02-29", "2001-02-29", "true", "false", "0", "999999999");
    }

    private static String names() {
        StringBuilder text = new StringBuilder();
        int many = MAKER.next(6) == 0 ? 39 + MAKER.next(4) : MAKER.next(6);
        for (int i = 0; i < many; i++) {
            if (many > 6) {
                text.append("fact x").append(i).append(": count;");
                continue;
            }
            if (MAKER.next(6) == 0) {
                text.append("table t").append(i).append(": ").append(any("rate", "money", "money", "count")).append(";\n");
                continue;
            }
            text.append(any("fact", "term")).append(" ").append(MAKER.next(40) == 0 ? any("x", "due", "twelve_chars", "thirteen_char")
                    : "x" + i).append(MAKER.next(2) == 0 ? ":" : " : ");
            text.append(any(KINDS)).append(" ");
            if (MAKER.next(8) == 0) {
                text.append(any("up", "down", "near", "even")).append(" ").append(MAKER.next(4)).append(" ");
            }
            if (MAKER.next(4) == 0) {
                text.append("else ").append(constant());
            }
            text.append(MAKER.next(8) == 0 ? " joins;" : ";");
        }
        return text.toString();
    }

    private static String holidays() {
        StringBuilder text = new StringBuilder();
        int many = MAKER.next(6) == 0 ? 19 + MAKER.next(4) : MAKER.next(5);
        for (int i = 0; i < many; i++) {
            switch (many > 5 ? 3 : MAKER.next(3)) {
                case 3:
                    text.append(i + 1).append(" ").append("5;");
                    break;
                case 0:
                    text.append(1 + MAKER.next(31)).append(" ").append(1 + MAKER.next(12)).append(";");
                    break;
                case 1:
                    text.append("easter ").append(MAKER.next(2) == 0 ? any("plus ", "minus ") + MAKER.next(110) : "").append(";");
                    break;
                default:
                    text.append(any("first ", "last ")).append(any("monday", "tuesday", "sunday", "day")).append(" of ")
                            .append(MAKER.next(14)).append(";");
                    break;
            }
        }
        return text.toString();
    }

    private static String laws() {
        StringBuilder text = new StringBuilder(MAKER.next(4) == 0 ? "' first\n" : "");
        List<Model.Version> none = new ArrayList<>();
        for (int i = MAKER.next(3); i >= 0; i--) {
            if (MAKER.next(2) == 0) {
                text.append("amend ").append(any("1", "1 a", "1b", "2", "2a")).append(" from ").append(any("1999-03-01", "2000-01-01",
                        "1990-01-01")).append("{").append(any("strike ", "put ")).append(MAKER.next(5))
                        .append(any(";", ": void;", ": kids is n;")).append(any("}", " add kids is 5; }", " add void; }"));
            } else {
                MAKER.version(none, text);
            }
        }
        return text.toString();
    }

    private static String facts() {
        StringBuilder text = new StringBuilder();
        for (int i = MAKER.next(4); i >= 0; i--) {
            text.append("person ").append(MAKER.next(PEOPLE + 2)).append(" ").append(MAKER.next(12) == 0 ? any("tax", "fees", "nobody")
                    : Maker.NAMES[MAKER.next(Maker.FACTS)]).append(" ");
            text.append(MAKER.next(5) == 0 ? "withdrawn" : "is " + constant());
            text.append(MAKER.next(2) == 0 ? " from 2000-0" + MAKER.next(10) + "-1" + MAKER.next(10) : "");
            text.append(MAKER.next(2) == 0 ? " until 2000-0" + MAKER.next(10) + "-1" + MAKER.next(10) : "").append(";");
        }
        return text.toString();
    }

    /** With a byte or a word more, less or another one, as a rule. */
    private static String spoiled(String text) {
        StringBuilder spoiled = new StringBuilder(text);
        for (int i = MAKER.next(3); i > 0 && spoiled.length() > 0; i--) {
            int at = MAKER.next(spoiled.length());
            int end = Math.min(spoiled.length(), at + 1 + MAKER.next(3) * MAKER.next(4));
            String other = any("", "", " ", "'", "\n", ";", ":", "}", "{", "(", ")", "%", "-", "<", "0", "7", "a", "x", "_", "$", "A",
                    " is ", " from ", " when ", " fact ", " none ", " kids ", " 2000-01-01 ", " 1.00 ", " put 1: ", " add ", " void; ");
            spoiled.replace(at, MAKER.next(2) == 0 ? at : end, other);
        }
        return spoiled.toString();
    }

    private static void hold(int sort, String text) {
        List<String> tokens = new ArrayList<>();
        List<Integer> at = new ArrayList<>();
        int from = scan(text, tokens, at);
        if (text.length() > 3900 || tokens.size() > 1190) {
            return;
        }
        int[] places = new int[at.size() + 1];
        for (int i = 0; i < at.size(); i++) {
            places[i] = at.get(i);
        }
        places[at.size()] = from;
        Second second = new Second(tokens, places);
        int want = second.read(sort);
        CHECK.feed(text);
        StatuteHouse house = CHECK.house;
        int got = sort == 0 ? house.names() : sort == 1 ? house.holidays() : sort == 2 ? house.enact(0) : house.facts();
        CHECK.due(text, got, want);
        CHECK.due(text + " kind", house.fault(0), second.fault);
        CHECK.due(text + " place", house.fault(1), second.fault == 0 ? NONE : second.place);
        FAULTS[second.fault]++;
    }

    /** The TOKENS and where they begin; one that is none ends them. What comes back is the text's length. */
    private static int scan(String text, List<String> tokens, List<Integer> at) {
        Matcher blanks = BLANKS.matcher(text);
        Matcher token = TOKEN.matcher(text);
        int place = 0;
        while (true) {
            blanks.region(place, text.length());
            blanks.lookingAt();
            place = blanks.end();
            if (place == text.length()) {
                return place;
            }
            at.add(place);
            token.region(place, text.length());
            if (!token.lookingAt() || token.group().matches("[a-z]\\w{12,}|\\d{10,}")) {
                tokens.add("$");
                return text.length();
            }
            tokens.add(token.group());
            place = token.end();
        }
    }

    /** The texts around exs; read() answers how many things are told, or NONE with a FAULT. */
    private static final class Second extends GrammarTest.Descent {
        private int many;
        private final List<String> told = new ArrayList<>();
        private final List<int[]> versions = new ArrayList<>(VERSIONS);

        Second(List<String> tokens, int[] places) {
            super(tokens, places);
        }

        int read(int sort) {
            try {
                do {
                    if (sort != 2 && here().isEmpty()) {
                        return many;
                    }
                    if (sort == 0) {
                        name();
                    } else if (sort == 1) {
                        holiday();
                    } else if (sort == 2) {
                        article();
                    } else {
                        fact();
                    }
                    many++;
                } while (!here().isEmpty());
                if (sort == 2) {
                    VERSIONS.clear();
                    VERSIONS.addAll(versions);
                }
                return many;
            } catch (GrammarTest.Stop end) {
                return NONE;
            }
        }

        private void wants(boolean fine) {
            if (!fine) {
                stop(SYNTAX, placeHere());
            }
        }

        private void refuses(boolean wrong, int kind) {
            if (wrong) {
                stop(kind, placeHere());
            }
        }

        private int number(int least, int most) {
            wants(here().matches("\\d+"));
            int number = Integer.parseInt(here());
            refuses(number < least || number > most, RANGE);
            at++;
            return number;
        }

        private void name() {
            wants(isHere("fact", "term", "table"));
            String sort = here();
            at++;
            wants(isName(here()));
            refuses(told.contains(here()), NAME);
            refuses(told.size() == 40, ROOM);
            told.add(here());
            at++;
            expect(":");
            if (sort.equals("table")) {
                wants(isHere("rate", "money"));
                at++;
                expect(";");
                return;
            }
            wants(isHere(KINDS));
            String kind = here();
            at++;
            if (isHere("up", "down", "near", "even")) {
                refuses(!sort.equals("term") || !kind.equals("money"), KIND);
                at++;
                number(1, Integer.MAX_VALUE);
            }
            if (isHere("else")) {
                at++;
                int place = placeHere();
                if (!KINDS[constant()].equals(kind)) {
                    stop(KIND, place);
                }
            }
            if (isHere("joins")) {
                refuses(!sort.equals("fact") || !kind.equals("person"), KIND);
                at++;
            }
            expect(";");
        }

        /** Its KIND. */
        private int constant() {
            boolean below = isHere("-");
            at += below ? 1 : 0;
            String word = here();
            int place = placeHere();
            if (!below && word.matches("\\d+-.*")) {
                refuses(!isDate(word), RANGE);
                at++;
                return Model.DATE;
            }
            if (!below && isHere("true", "false")) {
                at++;
                return Model.TRUTH;
            }
            if (word.matches("\\d+\\.\\d\\d")) {
                at++;
                return Model.MONEY;
            }
            wants(word.matches("\\d+"));
            at++;
            int most = isHere("%") ? 10000 : isHere("days") ? 65535 : isHere("months") ? 2400 : isHere("years") ? 200 : NONE;
            if (most == NONE) {
                return Model.COUNT;
            }
            if (Integer.parseInt(word) > most) {
                stop(RANGE, place);
            }
            at++;
            return most == 10000 ? Model.RATE : Model.SPAN;
        }

        private void holiday() {
            boolean fixed = here().matches("\\d+");
            wants(fixed || isHere("easter", "first", "last"));
            refuses(fixed && (Integer.parseInt(here()) < 1 || Integer.parseInt(here()) > 31), RANGE);
            refuses(many == 20, ROOM);
            String word = here();
            at++;
            if (fixed) {
                wants(here().matches("\\d+"));
                int month = Integer.parseInt(here());
                int[] lengths = {0, 31, 29, 31, 30, 31, 30, 31, 31, 30, 31, 30, 31};
                refuses(month < 1 || month > 12 || Integer.parseInt(word) > lengths[month], RANGE);
                at++;
            } else if (!word.equals("easter")) {
                wants(isHere("monday", "tuesday", "wednesday", "thursday", "friday", "saturday", "sunday"));
                at++;
                expect("of");
                number(1, 12);
            } else if (isHere("plus", "minus")) {
                at++;
                number(0, 100);
            }
            expect(";");
        }

        private int date(String word, int without, int least) {
            if (!isHere(word)) {
                return without;
            }
            at++;
            wants(here().matches("\\d+-\\d+-\\d+"));
            refuses(!isDate(here()), RANGE);
            int day = (int) Model.dayOf(java.time.LocalDate.parse(here()));
            refuses(day < least, RANGE);
            at++;
            return day;
        }

        private void fact() {
            expect("person");
            number(0, PEOPLE);
            wants(isName(here()));
            int name = java.util.Arrays.asList(Maker.NAMES).indexOf(here());
            refuses(name < 0 || name >= Maker.FACTS, NAME);
            at++;
            if (isHere("withdrawn")) {
                at++;
            } else {
                expect("is");
                int place = placeHere();
                String word = here();
                int kind = constant();
                boolean person = Maker.KINDS[name] == Model.PERSON && kind == Model.COUNT && !word.equals("-");
                if (person && Integer.parseInt(word) > PEOPLE) {
                    stop(RANGE, place);
                }
                if (!person && kind != Maker.KINDS[name]) {
                    stop(KIND, place);
                }
            }
            int from = date("from", 0, 0);
            date("until", 0, from);
            expect(";");
        }

        private int address() {
            int article = 27 * number(1, 999);
            if (here().matches("[a-z]")) {
                article += here().charAt(0) - 'a' + 1;
                at++;
            }
            return article;
        }

        private void article() {
            wants(isHere("article", "amend"));
            boolean amends = isHere("amend");
            at++;
            int place = placeHere();
            int[] version = {address(), date("from", Check.TODAY, 0), 0};
            expect("{");
            int[] before = null;
            for (int[] other : versions) {
                if (other[0] == version[0] && other[1] <= version[1] && (before == null || other[1] >= before[1])) {
                    before = other;
                }
            }
            if (amends && before == null) {
                stop(LACK, place);
            }
            version[2] = amends ? before[2] : 0;
            while (!isHere("}")) {
                if (!amends) {
                    rule();
                    version[2]++;
                } else if (isHere("add")) {
                    at++;
                    rule();
                    version[2]++;
                } else {
                    change(version[2]);
                }
            }
            at++;
            versions.add(version);
        }

        private void change(int rules) {
            wants(isHere("strike", "put"));
            boolean strikes = isHere("strike");
            at++;
            int place = placeHere();
            int number = number(1, 99);
            if (number > rules) {
                stop(LACK, place);
            }
            expect(strikes ? ";" : ":");
            if (!strikes) {
                rule();
            }
        }

        private void rule() {
            if (isHere("void")) {
                at++;
                expect(";");
                return;
            }
            if (isHere("table")) {
                table();
                return;
            }
            if (isHere("except")) {
                at++;
                address();
                expect("/");
                number(1, 99);
                expect(":");
            }
            wants(isName(here()));
            int name = java.util.Arrays.asList(Maker.NAMES).indexOf(here());
            refuses(name < Maker.FACTS || name >= Maker.TERMS, NAME);
            at++;
            expect("is");
            int place = placeHere();
            if (ex().kind != Maker.KINDS[name]) {
                stop(KIND, place);
            }
            if (isHere("when")) {
                at++;
                place = placeHere();
                if (ex().kind != Model.TRUTH) {
                    stop(KIND, place);
                }
            }
            expect(";");
        }

        private void table() {
            at++;
            wants(isName(here()));
            refuses(!isHere("slope", "fees"), NAME);
            int kind = isHere("slope") ? Model.RATE : Model.MONEY;
            at++;
            expect("{");
            long last = NONE;
            do {
                wants(here().matches("\\d+\\.\\d\\d"));
                long bound = Long.parseLong(here().replace(".", ""));
                refuses(bound > 999999999 || bound <= last, RANGE);
                last = bound;
                at++;
                expect(":");
                int place = placeHere();
                wants(here().matches("\\d+(\\.\\d\\d)?"));
                boolean money = here().contains(".");
                refuses(money && Long.parseLong(here().replace(".", "")) > 999999999, RANGE);
                int number = money ? 0 : Integer.parseInt(here());
                at++;
                if (!money) {
                    wants(isHere("%"));
                    if (number > 10000) {
                        stop(RANGE, place);
                    }
                    at++;
                }
                if (kind != (money ? Model.MONEY : Model.RATE)) {
                    stop(KIND, place);
                }
                expect(";");
            } while (!isHere("}"));
            at++;
        }
    }
}
