import java.lang.management.ManagementFactory;
import java.lang.reflect.Array;
import java.lang.reflect.Field;
import java.lang.reflect.Modifier;
import java.util.ArrayDeque;
import java.util.Collections;
import java.util.Deque;
import java.util.IdentityHashMap;
import java.util.Set;

/** All calls of one run live in one room: a house is small, and its calls, the dearest too, make no objects. */
public final class RoomTest {
    private static final long MOST_OBJECTS = 600_000;
    private static final long MOST_ELEMENTS = 7_300_000;
    /** So many houses of one run must fit. */
    private static final long HOUSES = 20;

    public static void main(String[] args) throws IllegalAccessException {
        Check check = new Check();
        check.furnished(29);
        prepare(check);
        size(check);
        allocation(check);
        check.end("RoomTest");
    }

    private static void prepare(Check check) {
        for (int person = 1; person < 30; person++) {
            check.house.fact(person, Check.MATE, 0, 0, 0, Check.LAST);
        }
        check.law("kids is sum(sum(sum(1, together), together), together); yes is n > 3 and flag or n = 5 or kids = 0;"
                + "tax is pay * 2 when n < 5; index is root(real(n));");
    }

    private static void size(Check check) throws IllegalAccessException {
        Set<Object> seen = Collections.newSetFromMap(new IdentityHashMap<>());
        Deque<Object> left = new ArrayDeque<>();
        left.add(check.house);
        seen.add(check.house);
        long elements = 0;
        while (!left.isEmpty()) {
            Object next = left.remove();
            if (next.getClass().isArray()) {
                elements += Array.getLength(next);
                if (next instanceof Object[] row) {
                    for (Object inside : row) {
                        reach(inside, seen, left);
                    }
                }
                continue;
            }
            for (Field field : next.getClass().getDeclaredFields()) {
                if (!Modifier.isStatic(field.getModifiers())) {
                    elements++;
                    field.setAccessible(true);
                    if (!field.getType().isPrimitive()) {
                        reach(field.get(next), seen, left);
                    }
                }
            }
        }
        System.out.println("a house has " + seen.size() + " objects and " + elements + " fields and elements");
        check.due("too many objects", seen.size() * HOUSES > MOST_OBJECTS ? 1 : 0, 0);
        check.due("too many elements", elements * HOUSES > MOST_ELEMENTS ? 1 : 0, 0);
    }

    private static void reach(Object found, Set<Object> seen, Deque<Object> left) {
        if (found != null && seen.add(found)) {
            left.add(found);
        }
    }

    private static void calls(StatuteHouse house) {
        house.feed(0x73756d28, 0x6b696473, 0x2c746f67, 0x65746865, 0x72292020);
        house.ask(0, 1, Check.TODAY, Check.TODAY);
        house.reckon(0, Check.KIDS, 1, Check.TODAY, Check.TODAY);
        house.tell();
        house.changes(0, Check.TAX, 1, Check.TODAY, Check.TODAY + 399, Check.TODAY);
        house.solve(0, Check.YES, 1, Check.TODAY, Check.N, -1000, 1000);
        house.measure(0, 1, Check.TAX, Check.TODAY);
        house.forecast(0, Check.TAX, Check.TODAY, 60);
        house.decide(1, Check.TAX, Check.TODAY, 1);
        house.revise(0);
        house.remind(1);
        house.pay(1, 5);
        house.fork(1);
        house.gaps(0, Check.YES, Check.TODAY);
        house.ring(0, Check.TODAY);
        house.write(0, Check.TODAY, Check.TODAY);
        house.differ(0, Check.TODAY, Check.TODAY, 1, Check.TODAY, Check.TODAY);
        house.feed(0x61727469, 0x636c6520, 0x37207b20, 0x766f6964, 0x3b207d20);
        house.enact(2);
        house.feed(0x31203520, 0x3b206561, 0x73746572, 0x20202020, 0x3b202020);
        house.holidays();
    }

    private static void allocation(Check check) {
        if (!(ManagementFactory.getThreadMXBean() instanceof com.sun.management.ThreadMXBean threads)) {
            return;
        }
        calls(check.house);
        long thread = Thread.currentThread().getId();
        long overhead = -threads.getThreadAllocatedBytes(thread);
        overhead += threads.getThreadAllocatedBytes(thread);
        long before = threads.getThreadAllocatedBytes(thread);
        for (int i = 0; i < 20; i++) {
            calls(check.house);
        }
        long made = threads.getThreadAllocatedBytes(thread) - before - overhead;
        check.due("bytes that calls make", Math.max(made, 0), 0);
    }
}
