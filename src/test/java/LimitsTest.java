/** The limits of texts and laws that take many TOKENS, RULES, rows, PARTS or RECORDS to come to. */
public final class LimitsTest {
    private static final int ROOM = 4;
    private static final int HEIGHT = 6;
    private static final int TODAY = Check.TODAY;
    private static final Check CHECK = new Check();

    public static void main(String[] args) {
        tokens();
        rules();
        rows();
        parts();
        records();
        CHECK.end("LimitsTest");
    }

    private static void fault(String what, int answer, int kind, int place) {
        CHECK.due(what, answer, -1);
        CHECK.due(what + " kind", CHECK.house.fault(0), kind);
        CHECK.due(what + " place", CHECK.house.fault(1), place);
    }

    /** Fourteen articles of 84 TOKENS and what is missing to 1200. */
    private static void tokens() {
        CHECK.furnished(1);
        String fourteen = ("article 1{" + "void;".repeat(40) + "}").repeat(14);
        String last = "article 1{" + "void;".repeat(10);
        CHECK.due("1200 tokens", CHECK.enact(0, fourteen + last + "}"), 15);
        String more = fourteen + last + "void;";
        fault("the 1201st is no sign of an end", CHECK.enact(1, more + "}"), ROOM, more.length() - 1);
        fault("a 1201st that is wrong", CHECK.enact(1, fourteen + last + "} void"), 1, fourteen.length() + last.length() + 2);
        fault("a 1201st that is right", CHECK.enact(1, fourteen + last + "} article 1 {}"), ROOM,
                fourteen.length() + last.length() + 2);
    }

    private static void rules() {
        CHECK.furnished(1);
        String forty = "{" + "tax is 1.00;".repeat(40) + "}";
        for (int i = 1; i <= 12; i++) {
            CHECK.due("forty rules", CHECK.enact(0, "article " + i + forty), 1);
        }
        CHECK.due("some voids", CHECK.enact(0, "article 13 {" + "void;".repeat(40) + "}"), 1);
        CHECK.due("twenty", CHECK.enact(0, "article 14 {" + "tax is 1.00;".repeat(20) + "}"), 1);
        CHECK.due("five hundred", CHECK.house.count(18), 500);
        CHECK.due("void ones still come", CHECK.enact(0, "article 15 { void; }"), 1);
        fault("a rule", CHECK.enact(0, "article 15 { tax is 1.00; }"), ROOM, 13);
        fault("a table", CHECK.enact(0, "article 15 { table fees { 1.00: 1.00; } }"), ROOM, 13);
        fault("an exception", CHECK.enact(0, "article 15 { except 1/1: tax is 1.00; }"), ROOM, 13);
        fault("put", CHECK.enact(0, "amend 1 { put 1: tax is 1.00; }"), ROOM, 17);
        fault("add", CHECK.enact(0, "amend 15 { add tax is 1.00; }"), ROOM, 15);
        fault("no term", CHECK.enact(0, "article 15 { flag is 1.00; }"), 2, 13);
        CHECK.due("what is amended needs no room", CHECK.enact(1, "article 1 { void; } amend 1 { strike 1; }"), 2);
        CHECK.due("amended rules are themselves", CHECK.enact(0, "amend 1 { strike 1; }"), 1);
        CHECK.due("five hundred still", CHECK.house.count(18), 500);
        CHECK.due("all in force conflict", CHECK.house.reckon(0, Check.TAX, 1, TODAY, TODAY), -12);
    }

    private static String table(int rows) {
        StringBuilder text = new StringBuilder("table slope {");
        for (int i = 0; i < rows; i++) {
            text.append(i).append(".00: 1%;");
        }
        return text + "}";
    }

    private static void rows() {
        CHECK.furnished(1);
        for (int i = 1; i <= 10; i++) {
            CHECK.due("forty rows", CHECK.enact(0, "article " + i + " {" + table(20) + table(20) + "}"), 1);
        }
        CHECK.due("four hundred", CHECK.house.count(17), 400);
        fault("one more", CHECK.enact(0, "article 1 { table slope { 1.00: 1%; } }"), ROOM, 26);
        CHECK.due("four hundred still", CHECK.house.count(17), 400);
    }

    /** Seven texts of 18 RULES of 59 PARTS, then what is missing to 8000. */
    private static void parts() {
        CHECK.furnished(1);
        String fifteen = "(n" + " + n".repeat(14) + ")";
        String rule = "kids is " + fifteen + " + " + fifteen + ";";
        for (int i = 1; i <= 7; i++) {
            CHECK.due("rules", CHECK.enact(0, "article " + i + " {" + rule.repeat(18) + "}"), 1);
            CHECK.due("parts", CHECK.house.count(15), i * 18 * 59);
        }
        String last = "article 8 {" + rule.repeat(9) + "} article 9 {" + "kids is 1;".repeat(35);
        fault("one too many", CHECK.enact(0, last + "kids is 2; }"), HEIGHT, last.length() + 8);
        CHECK.due("gone again", CHECK.house.count(15), 7 * 18 * 59);
        CHECK.due("the rest", CHECK.enact(0, last + "}"), 2);
        CHECK.due("eight thousand", CHECK.house.count(15), 8000);
        fault("no more", CHECK.enact(0, "article 9 { kids is 1; }"), HEIGHT, 20);
        fault("nor a question", CHECK.ask("1"), HEIGHT, 0);
        fault("at its own token", CHECK.ask("(self)"), HEIGHT, 1);
        CHECK.due("eight thousand still", CHECK.house.count(15), 8000);
        CHECK.due("void", CHECK.enact(0, "article 9 { void; }"), 1);
    }

    private static void records() {
        CHECK.furnished(29);
        for (int i = 0; i < 495; i++) {
            CHECK.due("record", CHECK.house.fact(i % 30, i / 30 % 8, 0, 1, 0, 65535), i + 1);
        }
        String five = "person 5 n is 1;".repeat(5);
        fault("six more", CHECK.facts(five + "person 6 n is 1;"), ROOM, five.length());
        CHECK.due("none came", CHECK.house.count(3), 495);
        CHECK.due("five more", CHECK.facts(five), 5);
        CHECK.due("no more", CHECK.house.fact(7, Check.N, 0, 0, 0, 0), -4);
        CHECK.due("nor withdrawn", CHECK.house.withdraw(7, Check.N, 0, 0), -4);
    }
}
