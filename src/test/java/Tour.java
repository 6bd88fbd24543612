/** A tour through a house of law. README.md shows it, and what it prints. */
public final class Tour {
    private static final int TODAY = 36524;
    private static final int LAST = 65535;
    private static final int INCOME = 0;
    private static final int MARRIED = 1;
    private static final int TAX = 3;
    private static final StatuteHouse HOUSE = new StatuteHouse();

    public static void main(String[] args) {
        feed("fact income: money; fact married: truth else false; fact kids: count else 0; term tax: money down 100;");
        show("names()", HOUSE.names());
        feed("article 1 from 1990-01-01 {\n"
                + "  tax is income * 20%;\n"
                + "  except 1/1: tax is income * 15% - 100.00 * kids when married; ' the exception goes ahead\n"
                + "}");
        show("enact(0)", HOUSE.enact(0));

        int ann = HOUSE.person();
        show("person()", ann);
        show("fact: income 12345.67", HOUSE.fact(ann, INCOME, 1234567, 0, 0, LAST));
        show("fact: married from TODAY on", HOUSE.fact(ann, MARRIED, 1, 0, TODAY, LAST));
        feed("person 1 kids is 2 from 1998-05-01;");
        show("facts()", HOUSE.facts());

        show("reckon: tax on TODAY", HOUSE.reckon(0, TAX, ann, TODAY, TODAY));
        show("value(0)", HOUSE.value(0));
        System.out.print(reasons());
        show("reckon: tax the day before", HOUSE.reckon(0, TAX, ann, TODAY - 1, TODAY));
        show("value(0)", HOUSE.value(0));
        feed("tax / income > 10% and kids * 2 = 4");
        show("ask", HOUSE.ask(0, ann, TODAY, TODAY));
        show("value(0)", HOUSE.value(0));

        show("reckon: no such TERM", HOUSE.reckon(0, INCOME, ann, TODAY, TODAY));
        show("reckon: no such PERSON", HOUSE.reckon(0, TAX, 7, TODAY, TODAY));
        show("reckon: THE STATE's income is UNKNOWN", HOUSE.reckon(0, TAX, 0, TODAY, TODAY));
        show("failed(0)", HOUSE.failed(0));
        show("failed(1), its TERM", HOUSE.failed(1));
        show("failed(4), its article, times 27", HOUSE.failed(4));
        feed("article 2 { tax is income * kid; }");
        show("enact(0) with a FAULT", HOUSE.enact(0));
        show("fault(0), NAME", HOUSE.fault(0));
        show("fault(1), its place", HOUSE.fault(1));
        show("object: no such DECISION", HOUSE.object(0));

        show("decide: tax of March and April", HOUSE.decide(ann, TAX, TODAY + 60, 2));
        show("amount(0, 0)", HOUSE.amount(0, 0));
        show("pay 1700.00", HOUSE.pay(ann, 170000));
        show("booking(1, 6), what is OPEN of April", HOUSE.booking(1, 6));
    }

    /** Twenty bytes a call, the highest of each int first; then the tape is cut to the text's length. */
    private static void feed(String text) {
        for (int i = 0; i < text.length(); i += 20) {
            int[] fives = new int[5];
            for (int j = 0; j < 20; j++) {
                int next = i + j < text.length() ? text.charAt(i + j) : ' ';
                fives[j / 4] = fives[j / 4] << 8 | next;
            }
            HOUSE.feed(fives[0], fives[1], fives[2], fives[3], fives[4]);
        }
        HOUSE.end(text.length());
    }

    /** What tell() wrote, byte by byte. */
    private static String reasons() {
        StringBuilder text = new StringBuilder();
        int size = HOUSE.tell();
        for (int i = 0; i < size; i++) {
            text.append((char) HOUSE.out(i));
        }
        return text.toString();
    }

    private static void show(String call, long answer) {
        System.out.println(call + ": " + answer);
    }
}
