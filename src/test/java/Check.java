/** What the tests share: a house to call, texts fed to it, answers held against those that are due. */
final class Check {
    /** One NAME of each sort and KIND; the numbers of the NAMES are the constants below. */
    static final String NAMES = "fact flag: truth else false; fact n: count else 0; fact pay: money else 0.00;"
            + " fact part: rate; fact birth: date; fact gone: span else 2 months; fact odd: real; fact parent: person;"
            + " fact mate: person joins; term yes: truth; term kids: count else -1; term tax: money;"
            + " term share: rate else 20%; term when_due: date; term notice: span; term index: real; term head: person;"
            + " term whole_tax: money down 100; table slope: rate; table fees: money;";
    static final int FLAG = 0;
    static final int N = 1;
    static final int PAY = 2;
    static final int PART = 3;
    static final int BIRTH = 4;
    static final int GONE = 5;
    static final int ODD = 6;
    static final int PARENT = 7;
    static final int MATE = 8;
    static final int YES = 9;
    static final int KIDS = 10;
    static final int TAX = 11;
    static final int SHARE = 12;
    static final int WHEN_DUE = 13;
    static final int NOTICE = 14;
    static final int INDEX = 15;
    static final int HEAD = 16;
    static final int WHOLE_TAX = 17;
    static final int SLOPE = 18;
    static final int FEES = 19;
    /** 1 January 2000, TODAY at first. */
    static final int TODAY = 36524;
    static final int LAST = 65535;

    StatuteHouse house = new StatuteHouse();
    private int asked;
    private int wrong;

    /** A new house. */
    void fresh() {
        house = new StatuteHouse();
    }

    /** A new house with NAMES and some PEOPLE beside THE STATE. */
    void furnished(int people) {
        fresh();
        due("names", names(NAMES), 20);
        for (int i = 1; i <= people; i++) {
            due("person", house.person(), i);
        }
    }

    void due(String what, long got, long want) {
        asked++;
        if (got != want) {
            wrong++;
            System.out.println(tail(what) + ": answered " + got + ", due is " + want);
        }
    }

    /** The end of a long text, as that is what tells it from others. */
    private static String tail(String what) {
        return what.length() <= 160 ? what : ".. " + what.substring(what.length() - 150);
    }

    void feed(String text) {
        byte[] bytes = text.getBytes(java.nio.charset.StandardCharsets.ISO_8859_1);
        int from = house.count(14);
        for (int i = 0; i < bytes.length; i += 20) {
            int[] fives = new int[5];
            for (int j = 0; j < 20; j++) {
                int next = i + j < bytes.length ? bytes[i + j] & 255 : ' ';
                fives[j / 4] = fives[j / 4] << 8 | next;
            }
            house.feed(fives[0], fives[1], fives[2], fives[3], fives[4]);
        }
        due("end of " + text, house.end(from + bytes.length), from + bytes.length);
    }

    int names(String text) {
        feed(text);
        return house.names();
    }

    int holidays(String text) {
        feed(text);
        return house.holidays();
    }

    int enact(int law, String text) {
        feed(text);
        return house.enact(law);
    }

    int facts(String text) {
        feed(text);
        return house.facts();
    }

    /** A question of PERSON 1 TODAY. */
    int ask(String text) {
        return ask(text, 1, TODAY);
    }

    int ask(String text, int person, int day) {
        feed(text);
        return house.ask(0, person, day, LAST);
    }

    /** A law of one article from 1990 on, which must be fine. */
    void law(String rules) {
        due("law " + rules, enact(0, "article 1 from 1990-01-01 {" + rules + "}"), 1);
    }

    /** A question of PERSON 1 TODAY and its VALUE. */
    void value(String text, int kind, long first, long second) {
        due(text, ask(text), kind);
        due(text + " first", house.value(0), first);
        due(text + " second", house.value(1), second);
    }

    /** A question that ends with a FAULT. */
    void fails(String text, int fault) {
        due(text, ask(text), -10 - fault);
        due(text + " failed", house.failed(0), fault);
    }

    String out(int size) {
        StringBuilder text = new StringBuilder();
        for (int i = 0; i < size; i++) {
            text.append((char) house.out(i));
        }
        return text.toString();
    }

    void text(String what, String got, String want) {
        asked++;
        if (!got.equals(want)) {
            wrong++;
            System.out.println(what + ": wrote\n" + got + "due is\n" + want);
        }
    }

    static long bits(double number) {
        return Double.doubleToRawLongBits(number);
    }

    static int day(int year, int month, int day) {
        return (int) (java.time.LocalDate.of(year, month, day).toEpochDay() + 25567);
    }

    /** Tells what went wrong and ends the test. */
    void end(String test) {
        System.out.println(test + ": " + (asked - wrong) + " of " + asked + " answers are as due");
        if (wrong != 0) {
            System.exit(1);
        }
    }
}
