/**
 * Every operator, function and SET over every KIND (and every two, some over every three): what the document names has
 * its KIND, all else is refused as KIND. The table is written down from "Terms" IV, not from the class.
 */
public final class KindsTest {
    private static final int NONE = -1;
    private static final int TRUTH = 0;
    private static final int COUNT = 1;
    private static final int MONEY = 2;
    private static final int RATE = 3;
    private static final int DATE = 4;
    private static final int SPAN = 5;
    private static final int REAL = 6;
    private static final int PERSON = 7;
    /** An ex of each KIND, whose VALUE no function below fails with. */
    private static final String[] OF = {"true", "3", "2.00", "25%", "2000-01-31", "2 days", "real(2)", "self"};
    private static final int KIND_FAULT = 5;
    private static final Check CHECK = new Check();

    public static void main(String[] args) {
        CHECK.furnished(1);
        CHECK.law("table slope { 0.00: 1%; } table fees { 0.00: 1.00; }");
        CHECK.due("a parent", CHECK.house.fact(1, Check.PARENT, 1, 0, 0, Check.LAST), 1);
        one();
        two();
        three();
        sets();
        constants();
        rules();
        CHECK.end("KindsTest");
    }

    private static void ask(String text, int place, int kind) {
        int answer = CHECK.ask(text);
        CHECK.due(text, answer, kind);
        CHECK.due(text + " fault", CHECK.house.fault(0), kind == NONE ? KIND_FAULT : 0);
        CHECK.due(text + " place", CHECK.house.fault(1), kind == NONE ? place : -1);
    }

    private static boolean among(int kind, int... kinds) {
        boolean found = false;
        for (int other : kinds) {
            found |= kind == other;
        }
        return found;
    }

    static int ofOne(String word, int kind) {
        switch (word) {
            case "not":
                return kind == TRUTH ? TRUTH : NONE;
            case "-":
                return among(kind, COUNT, MONEY, RATE, SPAN, REAL) ? kind : NONE;
            case "size":
                return among(kind, COUNT, MONEY, RATE, REAL) ? kind : NONE;
            case "first": case "last": case "due":
                return kind == DATE ? DATE : NONE;
            case "yearof": case "monthof": case "dayof": case "weekday":
                return kind == DATE ? COUNT : NONE;
            case "working":
                return kind == DATE ? TRUTH : NONE;
            case "real":
                return among(kind, COUNT, MONEY, RATE) ? REAL : NONE;
            case "root":
                return kind == REAL ? REAL : NONE;
            case "cents":
                return kind == REAL ? MONEY : NONE;
            default:
                return among(kind, RATE, REAL) ? COUNT : NONE;
        }
    }

    private static void one() {
        for (int kind = 0; kind < 8; kind++) {
            ask("not " + OF[kind], 0, ofOne("not", kind));
            ask("- " + OF[kind], 0, ofOne("-", kind));
            for (String word : new String[] {"size", "first", "last", "due", "yearof", "monthof", "dayof", "weekday", "working",
                "real", "root", "cents", "whole"}) {
                ask(word + "(" + OF[kind] + ")", 0, ofOne(word, kind));
            }
            ask("level(fees, " + OF[kind] + ")", 0, kind == MONEY ? MONEY : NONE);
            ask("level(slope, " + OF[kind] + ")", 0, kind == MONEY ? RATE : NONE);
            ask("slices(slope, " + OF[kind] + ")", 0, kind == MONEY ? MONEY : NONE);
            ask("slices(fees, " + OF[kind] + ")", 0, NONE);
            ask("between(fees, " + OF[kind] + ")", 0, kind == MONEY ? MONEY : NONE);
            ask("between(slope, " + OF[kind] + ")", 0, NONE);
        }
    }

    private static boolean fractions(int left, int right) {
        return among(left, COUNT, RATE) && among(right, COUNT, RATE);
    }

    static int ofSign(String sign, int left, int right) {
        boolean alike = left == right;
        switch (sign) {
            case "or": case "and":
                return alike && left == TRUTH ? TRUTH : NONE;
            case "=": case "#":
                return alike || fractions(left, right) ? TRUTH : NONE;
            case "<": case "<=": case ">": case ">=":
                return fractions(left, right) || alike && among(left, MONEY, REAL, DATE) ? TRUTH : NONE;
            case "+": case "-":
                if (left == DATE && right == SPAN) {
                    return DATE;
                }
                if (left == DATE && right == DATE && sign.equals("-")) {
                    return SPAN;
                }
                if (alike && among(left, COUNT, MONEY, REAL, SPAN, RATE)) {
                    return left;
                }
                return fractions(left, right) ? RATE : NONE;
            case "*":
                return product(left, right);
            case "/":
                if (fractions(left, right)) {
                    return RATE;
                }
                if (left == MONEY && right == MONEY) {
                    return RATE;
                }
                return left == MONEY && among(right, COUNT, RATE) ? MONEY : alike && left == REAL ? REAL : NONE;
            case "rem":
                return alike && among(left, COUNT, MONEY, REAL) ? left : NONE;
            case "of":
                return right == PERSON ? left : NONE;
            default:
                return right == DATE ? left : NONE;
        }
    }

    private static int product(int left, int right) {
        if (fractions(left, right)) {
            return left == COUNT && right == COUNT ? COUNT : RATE;
        }
        if (left == MONEY && among(right, COUNT, RATE) || right == MONEY && among(left, COUNT, RATE)) {
            return MONEY;
        }
        if (left == SPAN && right == COUNT || left == COUNT && right == SPAN) {
            return SPAN;
        }
        return left == REAL && right == REAL ? REAL : NONE;
    }

    static int ofTwo(String word, int left, int right) {
        boolean alike = left == right;
        switch (word) {
            case "least": case "most":
                return alike && among(left, COUNT, MONEY, RATE, REAL, DATE) ? left : NONE;
            case "up": case "down": case "near": case "even":
                return alike && left == MONEY ? MONEY : NONE;
            default:
                return alike && left == DATE ? COUNT : NONE;
        }
    }

    private static void two() {
        for (int left = 0; left < 8; left++) {
            for (int right = 0; right < 8; right++) {
                for (String sign : new String[] {"or", "and", "=", "#", "<", "<=", ">", ">=", "+", "-", "*", "/", "rem", "of", "on"}) {
                    String text = OF[left] + " " + sign + " " + OF[right];
                    ask(text, OF[left].length() + 1, ofSign(sign, left, right));
                }
                for (String word : new String[] {"least", "most", "up", "down", "near", "even", "fullmonths", "fullyears", "daysto"}) {
                    ask(word + "(" + OF[left] + ", " + OF[right] + ")", 0, ofTwo(word, left, right));
                }
            }
        }
    }

    private static void three() {
        for (int first = 0; first < 8; first++) {
            for (int second = 0; second < 8; second++) {
                for (int third = 0; third < 8; third++) {
                    String all = "(" + OF[first] + ", " + OF[second] + ", " + OF[third] + ")";
                    ask("if" + all, 0, first == TRUTH && second == third ? second : NONE);
                    boolean dates = second == DATE && third == DATE;
                    ask("over" + all, 0, dates && among(first, COUNT, MONEY, RATE, REAL) ? first : NONE);
                    boolean counts = first == COUNT && second == COUNT && third == COUNT;
                    String fine = counts ? "(2000, 3, 3)" : all;
                    ask("date" + fine, 0, counts ? DATE : NONE);
                }
            }
        }
    }

    private static void sets() {
        for (int kind = 0; kind < 8; kind++) {
            for (String end : new String[] {", parent)", ", mate)", ", together)"}) {
                boolean some = !end.equals(", mate)");
                ask("sum(" + OF[kind] + end, 0, among(kind, COUNT, MONEY, RATE, REAL) ? kind : NONE);
                ask("count(" + OF[kind] + end, 0, kind == TRUTH ? COUNT : NONE);
                ask("any(" + OF[kind] + end, 0, kind == TRUTH ? TRUTH : NONE);
                ask("all(" + OF[kind] + end, 0, kind == TRUTH ? TRUTH : NONE);
                if (some) {
                    boolean ordered = among(kind, COUNT, MONEY, RATE, REAL, DATE);
                    ask("greatest(" + OF[kind] + end, 0, ordered ? kind : NONE);
                    ask("smallest(" + OF[kind] + end, 0, ordered ? kind : NONE);
                }
            }
        }
    }

    /** Constants of NAMES and FACTS TEXTS: of the KIND, none of REAL; a PERSON by a NUMBER alone. */
    private static void constants() {
        String[] kinds = {"truth", "count", "money", "rate", "date", "span", "real", "person"};
        String[] constants = {"true", "3", "2.00", "25%", "2000-01-31", "2 days", "- 3", "- 2.00", "- 25%", "- 2 months", "false"};
        int[] of = {TRUTH, COUNT, MONEY, RATE, DATE, SPAN, COUNT, MONEY, RATE, SPAN, TRUTH};
        int[] facts = {Check.FLAG, Check.N, Check.PAY, Check.PART, Check.BIRTH, Check.GONE, Check.ODD, Check.PARENT};
        String[] names = {"flag", "n", "pay", "part", "birth", "gone", "odd", "parent"};
        for (int kind = 0; kind < 8; kind++) {
            for (int i = 0; i < constants.length; i++) {
                CHECK.furnished(3);
                boolean fine = kind == of[i];
                String text = "fact x: " + kinds[kind] + " else ";
                CHECK.due(text + constants[i], CHECK.names(text + constants[i] + ";"), fine ? 1 : NONE);
                CHECK.due(text + constants[i] + " fault", CHECK.house.fault(0), fine ? 0 : KIND_FAULT);
                CHECK.due(text + constants[i] + " place", CHECK.house.fault(1), fine ? -1 : text.length());
                fine |= kind == PERSON && i == 1;
                text = "person 1 " + names[kind] + " is ";
                CHECK.due(text + constants[i], CHECK.facts(text + constants[i] + ";"), fine ? 1 : NONE);
                CHECK.due(text + constants[i] + " fault", CHECK.house.fault(0), fine ? 0 : KIND_FAULT);
                CHECK.due(text + constants[i] + " place", CHECK.house.fault(1), fine ? -1 : text.length());
                CHECK.due("of its kind", CHECK.house.name(facts[kind], 1), kind);
            }
        }
    }

    /** Behind "is" of the TERM's KIND, behind "when" a TRUTH; modes of MONEY TERMS alone; joins of FACTS of PERSONS. */
    private static void rules() {
        String[] terms = {"yes", "kids", "tax", "share", "when_due", "notice", "index", "head"};
        CHECK.furnished(1);
        for (int term = 0; term < 8; term++) {
            for (int kind = 0; kind < 8; kind++) {
                String text = "article 1 { " + terms[term] + " is ";
                CHECK.due(text + OF[kind], CHECK.enact(0, text + OF[kind] + "; }"), term == kind ? 1 : NONE);
                CHECK.due(text + OF[kind] + " place", CHECK.house.fault(1), term == kind ? -1 : text.length());
                text = text + OF[term] + " when ";
                CHECK.due(text + OF[kind], CHECK.enact(0, text + OF[kind] + "; }"), kind == TRUTH ? 1 : NONE);
                CHECK.due(text + OF[kind] + " place", CHECK.house.fault(1), kind == TRUTH ? -1 : text.length());
            }
        }
        String[] kinds = {"truth", "count", "money", "rate", "date", "span", "real", "person"};
        for (int kind = 0; kind < 8; kind++) {
            for (String sort : new String[] {"fact", "term"}) {
                CHECK.furnished(1);
                for (String mode : new String[] {"up", "down", "near", "even"}) {
                    String text = sort + " x_" + mode + ": " + kinds[kind] + " ";
                    boolean fine = kind == MONEY && sort.equals("term");
                    CHECK.due(text + mode, CHECK.names(text + mode + " 5;"), fine ? 1 : NONE);
                    CHECK.due(text + mode + " place", CHECK.house.fault(1), fine ? -1 : text.length());
                }
                String text = sort + " x: " + kinds[kind] + " ";
                boolean fine = kind == PERSON && sort.equals("fact");
                CHECK.due(text + "joins", CHECK.names(text + "joins;"), fine ? 1 : NONE);
                CHECK.due(text + "joins place", CHECK.house.fault(1), fine ? -1 : text.length());
                CHECK.due(text + "joins is", CHECK.house.name(CHECK.house.count(1) - 1, 0) == 3 ? 1 : 0, fine ? 1 : 0);
            }
        }
    }
}
