/** REALS held against the machine's own: every operator over many numbers, edges of the range among them. */
public final class RealsTest {
    private static final int TRUTH = 0;
    private static final int COUNT = 1;
    private static final int MONEY = 2;
    private static final int REAL = 6;
    private static final int ZERO = 7;
    private static final int OVER = 8;
    private static final int NOREAL = 9;
    private static final double[] EDGES = {0.0, -0.0, 1.0, -1.0, 1.5, 2.0, 3.0, 0.1, -0.1, 1.0 / 3.0, 0.5, 10.0, 100.0, 1e10, 1e15,
        4503599627370495.5, 4503599627370496.0, 9007199254740991.0, 9007199254740993.0, 1e100, -1e100, 1e-100, 1e300, 1e-300,
        Double.MAX_VALUE, -Double.MAX_VALUE, Double.MIN_VALUE, -Double.MIN_VALUE, Double.MIN_NORMAL, -Double.MIN_NORMAL,
        Double.MIN_NORMAL / 2, Double.MIN_NORMAL * 1.5, Double.MIN_NORMAL - Double.MIN_VALUE, Double.MIN_NORMAL + Double.MIN_VALUE,
        Double.MIN_VALUE * 3, Double.MIN_VALUE * 7, 1e-310, 5e-324 * 1000, Math.nextUp(1.0), Math.nextDown(1.0), Math.nextUp(2.0),
        123456789.123456789, 0x1p-1022, 0x1.8p-1021, 0x1p1023, 0x1.fffffffffffffp1022, 0x1p-537, 0x1p511, 0x1p512, 7.0, -7.0, 0.7};
    private static final Check CHECK = new Check();

    public static void main(String[] args) {
        CHECK.furnished(1);
        for (double left : EDGES) {
            alone(left);
            for (double right : EDGES) {
                both(left, right);
            }
        }
        many();
        others();
        CHECK.end("RealsTest");
    }

    private static void suppose(double left, double right) {
        CHECK.house.suppose(1, Check.ODD, Check.bits(left), 0);
        CHECK.house.suppose(0, Check.ODD, Check.bits(right), 0);
    }

    private static void due(String text, double want, int fault) {
        int answer = CHECK.ask(text);
        boolean fails = fault != 0 || Double.isInfinite(want) || Double.isNaN(want);
        int due = fault != 0 ? -10 - fault : fails ? -10 - NOREAL : REAL;
        CHECK.due(text, answer, due);
        if (answer == REAL) {
            CHECK.due(text + " bits", CHECK.house.value(0), Check.bits(want));
            CHECK.due(text + " second", CHECK.house.value(1), 0);
        }
    }

    private static void both(double left, double right) {
        suppose(left, right);
        // a RATE ahead, whose second number must not be left behind
        CHECK.ask("1 / 3");
        due("odd + odd of state", left + right, 0);
        due("odd - odd of state", left - right, 0);
        due("odd * odd of state", left * right, 0);
        due("odd / odd of state", left / right, right == 0.0 ? ZERO : 0);
        CHECK.ask("1 / 3");
        due("odd rem odd of state", left % right, right == 0.0 ? ZERO : 0);
        CHECK.value("odd < odd of state", TRUTH, left < right ? 1 : 0, 0);
        CHECK.value("odd <= odd of state", TRUTH, left <= right ? 1 : 0, 0);
        CHECK.value("odd > odd of state", TRUTH, left > right ? 1 : 0, 0);
        CHECK.value("odd >= odd of state", TRUTH, left >= right ? 1 : 0, 0);
        CHECK.value("odd = odd of state", TRUTH, left == right ? 1 : 0, 0);
        CHECK.value("odd # odd of state", TRUTH, left != right ? 1 : 0, 0);
        due("least(odd, odd of state)", right < left ? right : left, 0);
        due("most(odd, odd of state)", right > left ? right : left, 0);
    }

    private static void alone(double number) {
        suppose(number, 0.0);
        CHECK.ask("1 / 3");
        due("odd", number, 0);
        CHECK.ask("1 / 3");
        due("- odd", -number, 0);
        CHECK.ask("1 / 3");
        due("size(odd)", Math.abs(number), 0);
        CHECK.ask("1 / 3");
        due("root(odd)", Math.sqrt(number), number < 0.0 ? NOREAL : 0);
        double cents = Math.rint(number * 100.0);
        boolean fits = Math.abs(cents) <= 1e12;
        CHECK.due("cents of " + number, CHECK.ask("cents(odd)"), fits ? MONEY : -10 - OVER);
        if (fits) {
            CHECK.due("cents of " + number, CHECK.house.value(0), (long) cents);
        }
        boolean whole = number > -2147483649.0 && number < 2147483648.0;
        CHECK.due("whole of " + number, CHECK.ask("whole(odd)"), whole ? COUNT : -10 - OVER);
        if (whole) {
            CHECK.due("whole of " + number, CHECK.house.value(0), (long) number);
        }
    }

    /** Numbers by a fixed rule, so that the test is the same each time. */
    private static void many() {
        long state = 88172645463325252L;
        double before = 1.0;
        for (int i = 0; i < 3000; i++) {
            state ^= state << 13;
            state ^= state >>> 7;
            state ^= state << 17;
            double number = Double.longBitsToDouble(i % 2 == 0 ? state : 0x3ff0000000000000L + (state >>> 9));
            if (Double.isNaN(number) || Double.isInfinite(number)) {
                continue;
            }
            alone(number);
            suppose(number, before);
            due("odd + odd of state", number + before, 0);
            due("odd * odd of state", number * before, 0);
            due("odd / odd of state", number / before, before == 0.0 ? ZERO : 0);
            due("odd rem odd of state", number % before, before == 0.0 ? ZERO : 0);
            before = number;
        }
    }

    /** REALS of other KINDS. */
    private static void others() {
        int[] counts = {0, 1, -1, 3, 2147483647, -2147483648, 999999937};
        for (int count : counts) {
            CHECK.house.suppose(1, Check.N, count, 0);
            due("real(n)", count, 0);
        }
        long[] moneys = {0, 1, -1, 99, 100, 333, 1000000000000L, -1000000000000L, 999999999999L};
        for (long cents : moneys) {
            CHECK.house.suppose(1, Check.PAY, cents, 0);
            due("real(pay)", cents / 100.0, 0);
        }
        int[][] rates = {{0, 1}, {1, 3}, {-1, 3}, {999999, 1000000}, {1, 1000000}, {-1000000, 1}, {1000000, 999999}};
        for (int[] rate : rates) {
            CHECK.house.suppose(1, Check.PART, rate[0], rate[1]);
            due("real(part)", (double) rate[0] / (double) rate[1], 0);
        }
    }
}
