/** Promises 11 to 18: time, PEOPLE, what is told of them and supposed. */
public final class TimeAndFactsTest {
    private static final int NONE = -1;
    private static final int RANGE = -2;
    private static final int FULL = -4;
    private static final int UNKNOWN = -16;

    public static void main(String[] args) {
        Check check = new Check();
        pass(check);
        due(check);
        people(check);
        weights(check);
        values(check);
        records(check);
        suppositions(check);
        check.end("TimeAndFactsTest");
    }

    private static void pass(Check check) {
        check.fresh();
        check.due("ahead of today", check.house.pass(Check.TODAY - 1), RANGE);
        check.due("today", check.house.pass(Check.TODAY), 0);
        check.due("behind the last", check.house.pass(65536), RANGE);
        check.due("below", check.house.pass(-1), RANGE);
        check.due("later", check.house.pass(40000), 0);
        check.due("it is", check.house.count(0), 40000);
        check.due("back", check.house.pass(39999), RANGE);
        check.due("the last", check.house.pass(65535), 0);
    }

    private static void due(Check check) {
        check.fresh();
        check.due("Saturday", check.house.due(Check.TODAY, 0, 0), Check.TODAY + 2);
        check.due("a month", check.house.due(Check.day(2000, 1, 31), 1, 0), Check.day(2000, 2, 29));
        check.due("back", check.house.due(Check.TODAY, -1, -1), Check.day(1999, 11, 30));
        check.due("no day", check.house.due(-1, 0, 0), RANGE);
        check.due("no day above", check.house.due(65536, 0, 0), RANGE);
        check.due("no months", check.house.due(0, 2401, 0), RANGE);
        check.due("no months below", check.house.due(0, -2401, 0), RANGE);
        check.due("no days", check.house.due(0, 0, 65536), RANGE);
        check.due("no days below", check.house.due(0, 0, -65536), RANGE);
        check.due("no days at all", check.house.due(0, Integer.MIN_VALUE, Integer.MIN_VALUE), RANGE);
        check.due("the last", check.house.due(0, 0, 65535), 65535);
        check.due("over", check.house.due(65535, 0, 1), FULL);
        check.due("over by months", check.house.due(0, -1, 0), FULL);
        check.due("over by years", check.house.due(65535, 2400, -65535), FULL);
        check.due("no fault of a reckoning", check.house.failed(0), 0);
        check.due("a holiday", check.holidays("6 6;"), 1);
        check.due("over without a working day", check.house.due(65535, 0, 0), FULL);
    }

    private static void people(Check check) {
        check.fresh();
        for (int i = 1; i <= 29; i++) {
            check.due("person", check.house.person(), i);
        }
        check.due("one too many", check.house.person(), FULL);
        check.due("people", check.house.count(2), 30);
    }

    private static void weights(Check check) {
        check.fresh();
        check.due("no person", check.house.weight(1, 0x3f800000), NONE);
        check.due("person", check.house.person(), 1);
        check.due("one", check.house.weight(1, 0x3f800000), 1);
        check.due("a million", check.house.weight(1, Float.floatToRawIntBits(1000000f)), 1);
        check.due("more", check.house.weight(1, Float.floatToRawIntBits(Math.nextUp(1000000f))), RANGE);
        check.due("zero", check.house.weight(1, 0), RANGE);
        check.due("below", check.house.weight(1, Float.floatToRawIntBits(-1f)), RANGE);
        check.due("less than nothing", check.house.weight(1, Integer.MIN_VALUE), RANGE);
        check.due("infinite", check.house.weight(1, 0x7f800000), RANGE);
        check.due("no number", check.house.weight(1, 0x7fc00000), RANGE);
        check.due("the least", check.house.weight(1, 1), 1);
    }

    private static void taken(Check check, int name, long a, long b, int kind, long first, long second) {
        String what = "fact " + name + " " + a + " " + b;
        check.due(what, check.house.suppose(1, name, a, b) > 0 ? 1 : 0, 1);
        String[] names = {"flag", "n", "pay", "part", "birth", "gone", "odd", "parent"};
        check.value(names[name], kind, first, second);
    }

    private static void refused(Check check, int name, long a, long b) {
        check.due("fact " + name + " " + a + " " + b, check.house.fact(1, name, a, b, 0, 65535), RANGE);
        check.due("suppose " + name + " " + a + " " + b, check.house.suppose(1, name, a, b), RANGE);
    }

    private static void values(Check check) {
        check.furnished(1);
        taken(check, Check.FLAG, 1, 77, 0, 1, 0);
        refused(check, Check.FLAG, 2, 0);
        refused(check, Check.FLAG, -1, 0);
        taken(check, Check.N, -2147483648L, 5, 1, -2147483648L, 0);
        refused(check, Check.N, 2147483648L, 0);
        refused(check, Check.N, -2147483649L, 0);
        taken(check, Check.PAY, -1000000000000L, 0, 2, -1000000000000L, 0);
        refused(check, Check.PAY, 1000000000001L, 0);
        taken(check, Check.PART, 2, 4, 3, 1, 2);
        taken(check, Check.PART, -1000000000000L, 1000000000000L, 3, -1, 1);
        taken(check, Check.PART, 0, 1000000000000L, 3, 0, 1);
        refused(check, Check.PART, 1, 0);
        refused(check, Check.PART, 1, -1);
        refused(check, Check.PART, 1, 1000001);
        refused(check, Check.PART, 1000001, 1);
        refused(check, Check.PART, 1000000000001L, 1000000000001L);
        refused(check, Check.PART, Long.MIN_VALUE, 1);
        taken(check, Check.BIRTH, 65535, 0, 4, 65535, 0);
        refused(check, Check.BIRTH, 65536, 0);
        refused(check, Check.BIRTH, -1, 0);
        taken(check, Check.GONE, -2400, 65535, 5, -2400, 65535);
        refused(check, Check.GONE, 2401, 0);
        refused(check, Check.GONE, 0, -65536);
        taken(check, Check.ODD, Long.MIN_VALUE, 1, 6, Long.MIN_VALUE, 0);
        refused(check, Check.ODD, Check.bits(Double.POSITIVE_INFINITY), 0);
        refused(check, Check.ODD, Check.bits(Double.NaN), 0);
        refused(check, Check.ODD, -1, 0);
        taken(check, Check.PARENT, 1, 0, 7, 1, 0);
        refused(check, Check.PARENT, 2, 0);
        refused(check, Check.PARENT, -1, 0);
    }

    private static void records(Check check) {
        check.furnished(2);
        check.due("no person", check.house.fact(3, 0, 1, 0, 0, 0), NONE);
        check.due("no fact", check.house.fact(1, Check.TAX, 1, 0, 0, 0), NONE);
        check.due("no name", check.house.fact(1, 20, 1, 0, 0, 0), NONE);
        check.due("NONE ahead of RANGE", check.house.fact(1, -1, 1, 0, 5, 4), NONE);
        check.due("no day", check.house.fact(1, 0, 1, 0, -1, 0), RANGE);
        check.due("no day above", check.house.fact(1, 0, 1, 0, 0, 65536), RANGE);
        check.due("from behind to", check.house.fact(1, 0, 1, 0, 5, 4), RANGE);
        check.due("first", check.house.fact(1, Check.N, 1, 0, 36000, 37000), 1);
        check.value("n", 1, 1, 0);
        check.due("next day", check.house.pass(Check.TODAY + 1), 0);
        check.due("put right", check.house.fact(1, Check.N, 2, 0, 36500, 36600), 2);
        check.value("n", 1, 2, 0);
        check.feed("n");
        check.due("as known the day ahead", check.house.ask(0, 1, Check.TODAY, Check.TODAY), 1);
        check.due("it was 1", check.house.value(0), 1);
        check.value("n on (day + 76 days)", 1, 2, 0);
        check.value("n on (day + 77 days)", 1, 1, 0);
        check.due("withdrawn", check.house.withdraw(1, Check.N, 36000, 36524), 3);
        check.value("n", 1, 0, 0);
        check.value("has(n)", 0, 0, 0);
        check.value("n on (day + 1 days)", 1, 2, 0);
        check.due("no person", check.house.withdraw(-1, Check.N, 0, 0), NONE);
        check.due("no fact", check.house.withdraw(1, Check.FEES, 0, 0), NONE);
        check.due("no days", check.house.withdraw(1, Check.N, 1, 0), RANGE);
        check.due("unknown without else", check.ask("part"), UNKNOWN);
        for (int i = 3; i < 16; i++) {
            check.due("record", check.house.fact(1, Check.N, i, 0, 0, 0), i + 1);
        }
        check.due("17 of one", check.house.fact(1, Check.N, 1, 0, 0, 0), FULL);
        check.due("17 withdrawn", check.house.withdraw(1, Check.N, 0, 0), FULL);
        check.due("of another person", check.house.fact(2, Check.N, 1, 0, 0, 0), 17);
        check.due("of another fact", check.house.fact(1, Check.PAY, 1, 0, 0, 0), 18);
        check.due("records", check.house.count(3), 18);
    }

    private static void suppositions(Check check) {
        check.furnished(2);
        check.due("fact", check.house.fact(1, Check.N, 1, 0, 0, 65535), 1);
        check.due("no person", check.house.suppose(3, Check.N, 1, 0), NONE);
        check.due("no fact", check.house.suppose(1, Check.YES, 1, 0), NONE);
        check.due("suppose", check.house.suppose(1, Check.N, 5, 0), 1);
        check.value("n", 1, 5, 0);
        check.due("in its place", check.house.suppose(1, Check.N, 6, 0), 1);
        check.value("n", 1, 6, 0);
        check.value("n of state", 1, 0, 0);
        check.due("parent", check.house.suppose(2, Check.PARENT, 1, 0), 2);
        check.value("count(true, parent)", 1, 1, 0);
        check.value("has(parent)", 0, 0, 0);
        for (int name = 0; name < 6; name++) {
            check.due("another", check.house.suppose(2, name, 1, 1), 3 + name);
        }
        check.due("a ninth", check.house.suppose(0, Check.N, 1, 0), FULL);
        check.due("in place of one", check.house.suppose(2, Check.N, 9, 0), 8);
        check.due("how many", check.house.count(4), 8);
        check.due("forgotten", check.house.forget(), 8);
        check.due("none are left", check.house.forget(), 0);
        check.value("n", 1, 1, 0);
        check.value("count(true, parent)", 1, 0, 0);
    }
}
