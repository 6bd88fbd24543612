import java.lang.reflect.InvocationTargetException;
import java.lang.reflect.Method;
import java.lang.reflect.Modifier;
import java.util.ArrayList;
import java.util.Comparator;
import java.util.List;

/**
 * Many runs of calls with sensible and senseless arguments, on two houses alike: no call throws, and both answer
 * alike. The texts are cut and changed at places that a fixed row of numbers tells.
 */
public final class NeverThrowsTest {
    private static final String[] TEXTS = {
        Check.NAMES,
        "fact a: money else 1.00; term b: money even 5; fact c: person joins; table d: rate;",
        "article 1 from 1990-01-01 { yes is n > 0 or flag; kids is sum(n, parent) + count(yes, together);"
            + " tax is slices(slope, pay) + level(fees, pay) when has(pay); except 1/3: tax is between(fees, pay) when yes; }",
        "article 2 a { table slope { 0.00: 10%; 100.00: 25%; } table fees { 1.00: 2.00; 3.00: 5.00; } void;"
            + " when_due is due(last(day) + 10 days); index is root(real(size(pay)) / real(2.00)); head is parent of self; }",
        "amend 1 { strike 1; put 2: kids is over(n, day - 3 months, day); add yes is tax of parent < 5.00; add void; }",
        "article 3 { kids is 0; except 3/1: kids is 1 when n = 1; except 3/2: kids is kids on (day + 1 days); }",
        "person 1 n is 5; person 1 pay is 12.00 from 1999-01-01; person 2 parent is 1; person 1 mate is 0;"
            + " person 0 part is 5%; person 2 birth is 1970-01-01 until 2005-05-05; person 1 gone withdrawn;",
        "1 1; easter plus 1; last monday of 5; first friday of 12; 29 2;",
        "whole(real(n) * root(odd rem real(3))) + fullmonths(birth, day) - weekday(first(day)) rem (n + 1)",
        "if(any(flag, together) and not all(has(n), parent), greatest(pay, together) * share, even(pay / 3, 0.05))",
        "cents(odd) / - (n - n) + up(pay, 1.00 - 1.00)",
        "date(n, n, n) + gone * n - 5 months",
    };
    /** The call that each text is meant for. */
    private static final String[] READ_BY = {"names", "names", "enact", "enact", "enact", "enact", "facts", "holidays", "ask",
        "ask", "ask", "ask"};
    private static long state = 20260101;

    public static void main(String[] args) throws IllegalAccessException {
        Check check = new Check();
        List<Method> calls = new ArrayList<>();
        for (Method method : StatuteHouse.class.getDeclaredMethods()) {
            if (Modifier.isPublic(method.getModifiers())) {
                calls.add(method);
            }
        }
        calls.sort(Comparator.comparing(Method::getName));
        int thrown = 0;
        int unlike = 0;
        for (int run = 0; run < 300; run++) {
            Check one = new Check();
            Check other = new Check();
            for (int i = 0; i < 250; i++) {
                Method call = calls.get(next(calls.size()));
                if (i == 0 || next(3) == 0) {
                    int which = i == 0 ? 0 : next(TEXTS.length);
                    String text = i == 0 ? TEXTS[0] : spoiled(TEXTS[which]);
                    one.house.end(0);
                    one.feed(text);
                    other.house.end(0);
                    other.feed(text);
                    call = next(10) == 0 ? call : calls.get(indexOf(calls, READ_BY[which]));
                }
                Object[] with = arguments(call);
                try {
                    Object got = call.invoke(one.house, with);
                    unlike += got.equals(call.invoke(other.house, with)) ? 0 : 1;
                } catch (InvocationTargetException thrownByCall) {
                    thrown++;
                    System.out.println(call.getName() + " " + List.of(with) + ": " + thrownByCall.getCause());
                }
            }
        }
        check.due("calls that threw", thrown, 0);
        check.due("calls answered unlike", unlike, 0);
        check.end("NeverThrowsTest");
    }

    private static int indexOf(List<Method> calls, String name) {
        int at = 0;
        while (!calls.get(at).getName().equals(name)) {
            at++;
        }
        return at;
    }

    private static int next(int below) {
        state = state * 6364136223846793005L + 1442695040888963407L;
        return (int) ((state >>> 33) % below);
    }

    private static String spoiled(String text) {
        if (next(3) > 0) {
            return text;
        }
        int at = next(text.length());
        char put = (char) next(256);
        return next(2) == 0 ? text.substring(0, at) : text.substring(0, at) + put + text.substring(at + 1);
    }

    private static Object[] arguments(Method call) {
        Class<?>[] types = call.getParameterTypes();
        Object[] with = new Object[types.length];
        for (int i = 0; i < types.length; i++) {
            if (types[i] == boolean.class) {
                with[i] = next(2) == 0;
            } else if (types[i] == long.class) {
                with[i] = number();
            } else {
                with[i] = (int) number();
            }
        }
        return with;
    }

    private static long number() {
        switch (next(12)) {
            case 0:
                return new long[] {Integer.MIN_VALUE, Integer.MAX_VALUE, Long.MIN_VALUE, Long.MAX_VALUE, -1, 65536}[next(6)];
            case 1:
            case 2:
                return Check.TODAY + next(400);
            case 3:
                return 65535 - next(3);
            case 4:
                return next(1000000);
            case 5:
                return Check.bits(next(1000) / 7.0);
            case 6:
                return Check.day(2000 + next(5), 1 + next(12), 1);
            default:
                return next(20) - 1;
        }
    }
}
