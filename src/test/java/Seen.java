import java.util.ArrayList;
import java.util.List;

/** All that can be seen of a house, so that two of them, or one at two times, can be held against one another. */
final class Seen {
    private final StatuteHouse house;
    private final List<String> rows = new ArrayList<>();

    private Seen(StatuteHouse house) {
        this.house = house;
    }

    /** What the calls tell that change nothing. */
    static List<String> of(StatuteHouse house) {
        Seen seen = new Seen(house);
        seen.add("fault", house.fault(0), house.fault(1));
        seen.add("tape", house.count(14));
        seen.addCounts();
        seen.addReckoned();
        seen.addDecided();
        seen.addStudied();
        return seen.rows;
    }

    /** As above, but for the FAULT of the latest text and THE TAPE, which a text that is refused changes, too. */
    static List<String> behindText(StatuteHouse house) {
        return without(of(house), "fault ", "tape ");
    }

    /** The rows but for those that begin so. */
    static List<String> without(List<String> rows, String... beginnings) {
        List<String> left = new ArrayList<>();
        for (String row : rows) {
            boolean leave = false;
            for (String beginning : beginnings) {
                leave |= row.startsWith(beginning);
            }
            if (!leave) {
                left.add(row);
            }
        }
        return left;
    }

    /** What calls tell that change OUT, REASONS and the like: laws as they stand, what is told of PEOPLE, HOLIDAYS. */
    static List<String> probed(StatuteHouse house) {
        Seen seen = new Seen(house);
        int[] days = {0, 36158, 36523, 36524, 36525, 36526, 36600, 40000, 65535};
        for (int law = 0; law < 4; law++) {
            for (int day : days) {
                for (int known : days) {
                    int size = house.write(law, day, known);
                    seen.rows.add("law " + law + " on " + day + " known " + known + ": " + seen.out(size));
                }
            }
        }
        for (int name = 0; name < house.count(1); name++) {
            for (int person = 0; person < house.count(2); person++) {
                seen.probeName(name, person, days);
            }
        }
        for (int day = 36524; day < 36900; day++) {
            seen.add("due", day, house.due(day, 0, 0));
        }
        seen.add("forget", house.forget());
        seen.add("ring", house.ring(0, 36524));
        return seen.rows;
    }

    private void probeName(int name, int person, int[] days) {
        for (int day : days) {
            for (int known : days) {
                int answer = house.name(name, 0) == 1 ? house.reckon(0, name, person, day, known) : askFact(name, person, day, known);
                add("name " + name + " of " + person, day, known, answer, house.value(0), house.value(1), house.count(12));
            }
        }
    }

    private int askFact(int name, int person, int day, int known) {
        if (house.name(name, 0) == 2) {
            return 0;
        }
        int[] fives = {0x20202020, 0x20202020, 0x20202020, 0x20202020, 0x20202020};
        for (int i = 0; i < house.name(name, 3); i++) {
            int shift = 24 - 8 * (i % 4);
            fives[i / 4] = fives[i / 4] & ~(255 << shift) | house.name(name, 10 + i) << shift;
        }
        house.end(0);
        house.feed(fives[0], fives[1], fives[2], fives[3], fives[4]);
        return house.ask(0, person, day, known);
    }

    private String out(int size) {
        StringBuilder text = new StringBuilder();
        for (int i = 0; i < size; i++) {
            text.append((char) house.out(i));
        }
        return text + " " + size;
    }

    private void add(String what, long... numbers) {
        StringBuilder row = new StringBuilder(what);
        for (long number : numbers) {
            row.append(' ').append(number);
        }
        rows.add(row.toString());
    }

    private void addCounts() {
        for (int what = -1; what < 20; what++) {
            if (what != 14) {
                add("count " + what, house.count(what));
            }
        }
        for (int name = 0; name < house.count(1); name++) {
            for (int what = 0; what < 23; what++) {
                add("name " + name + " " + what, house.name(name, what));
            }
        }
    }

    private void addReckoned() {
        add("value", house.value(0), house.value(1));
        for (int what = 0; what < 6; what++) {
            add("failed " + what, house.failed(what));
        }
        for (int i = 0; i < 300; i++) {
            for (int what = 0; what < 10; what++) {
                add("why " + i + " " + what, house.why(i, what));
            }
        }
        for (int i = 0; i < 400; i++) {
            for (int what = 0; what < 4; what++) {
                add("changed " + i + " " + what, house.changed(i, what));
            }
        }
        add("solved", house.solved());
    }

    private void addDecided() {
        for (int i = 0; i < 30; i++) {
            for (int what = 0; what < 7; what++) {
                add("decision " + i + " " + what, house.decision(i, what));
            }
            for (int month = 0; month < 24; month++) {
                add("amount " + i + " " + month, house.amount(i, month));
            }
            add("person " + i, house.credit(i), house.account(i, 36600), house.account(i, 65535));
        }
        for (int i = 0; i < 400; i++) {
            for (int what = 0; what < 10; what++) {
                add("booking " + i + " " + what, house.booking(i, what));
            }
        }
    }

    private void addStudied() {
        for (int what = 0; what < 12; what++) {
            add("measured " + what, house.measured(what));
        }
        for (int k = 0; k < 60; k++) {
            add("forecasted " + k, house.forecasted(k, 0), house.forecasted(k, 1));
        }
        for (int what = 0; what < 5; what++) {
            add("gap " + what, house.gap(what));
        }
        for (int i = 0; i < 12001; i++) {
            add("out " + i, house.out(i));
        }
        for (int i = 0; i < 201; i++) {
            add("differs " + i, house.differs(i));
        }
    }

    /** The first row that is not alike, or an empty text. */
    static String difference(List<String> one, List<String> other) {
        for (int i = 0; i < Math.min(one.size(), other.size()); i++) {
            if (!one.get(i).equals(other.get(i))) {
                return one.get(i) + " / " + other.get(i);
            }
        }
        return one.size() == other.size() ? "" : one.size() + " rows / " + other.size() + " rows";
    }
}
