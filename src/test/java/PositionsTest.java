/**
 * What a PART stands over is worked out for the PERSON, on the DAY and as known on the DAY for which it is itself: in each
 * place of each PART a FACT, which only there and then is what it should be, must do the same as a constant.
 */
public final class PositionsTest {
    private static final int TODAY = Check.TODAY;
    private static final int LAST = Check.LAST;
    private static final String NAMES = "fact flag: truth; fact n: count; fact pay: money; fact part: rate; fact born: date;"
            + " fact gone: span; fact odd: real; fact head: person; fact kin: person; fact mate: person joins;"
            + " table slope: rate; table fees: money;";
    private static final int KIN = 8;
    private static final int MATE = 9;
    /** Of each FACT: what it is for PERSON 1 TODAY as known TODAY, what it is else, and the first as a constant. */
    private static final long[] RIGHT = {1, 7, 700, 7, 36000, 3, Check.bits(7.0), 0};
    private static final long[] WRONG = {0, 5, 555, 2, 30000, 8, Check.bits(3.5), 2};
    private static final String[] FACTS = {"flag", "n", "pay", "part", "born", "gone", "odd", "head"};
    private static final String[] CONSTANTS = {"true", "7", "7.00", "700%", "1998-07-26", "3 months", "real(7)", "state"};
    private static final String[][] EXS = {
        {"@ or false", "false or @", "@ and true", "true and @", "not @", "@ = true", "true = @", "@ # true", "true # @",
            "if(@, 1, 2)", "if(true, @, false)", "if(false, false, @)", "count(@, kin)", "any(@, kin)", "all(@, kin)"},
        {"@ + 1", "1 + @", "@ - 1", "1 - @", "@ * 2", "2 * @", "@ / 2", "2 / @", "@ rem 4", "100 rem @", "- @", "@ = 7",
            "7 = @", "@ # 7", "7 # @", "@ < 8", "6 < @", "@ <= 7", "7 <= @", "@ > 6", "8 > @", "@ >= 7", "7 >= @",
            "least(@, 6)", "least(6, @)", "most(@, 6)", "most(6, @)", "date(@ + 1993, 1, 1)", "date(2000, @, 1)",
            "date(2000, 1, @)", "size(@)", "real(@)", "1.00 * @", "@ * 1.00", "7.00 / @", "5% * @", "@ + 5%", "5 days * @",
            "@ * 5 days", "if(true, @, 1)", "if(false, 1, @)", "sum(@, kin)", "greatest(@, kin)", "smallest(@, kin)",
            "over(@, day, day)", "if(@ = 7, 1, 2)"},
        {"@ + 1.00", "1.00 + @", "@ - 1.00", "1.00 - @", "@ * 2", "2 * @", "@ / 2", "@ / 5%", "@ / 2.00", "2.00 / @",
            "@ rem 2.00", "9.00 rem @", "- @", "@ < 6.00", "6.00 < @", "least(@, 6.00)", "least(6.00, @)", "most(@, 6.00)",
            "up(@, 4.00)", "up(20.00, @)", "down(@, 4.00)", "down(20.00, @)", "near(@, 4.00)", "near(20.00, @)",
            "even(@, 4.00)", "even(20.00, @)", "size(@)", "real(@)", "level(fees, @)", "level(slope, @)",
            "slices(slope, @)", "between(fees, @)", "sum(@, kin)", "over(@, day, day)"},
        {"@ + 1", "1 + @", "@ * 2.00", "2.00 * @", "2.00 / @", "whole(@)", "real(@)", "@ = 7", "7 = @", "@ < 6", "6 < @",
            "size(@)", "- @", "@ / 3", "3 / @", "least(@, 600%)", "most(600%, @)", "sum(@, kin)", "over(@, day, day)"},
        {"@ + 5 days", "@ - 5 days", "@ - 1998-01-01", "1998-01-01 - @", "@ < 1990-01-01", "1990-01-01 < @",
            "fullmonths(@, 2000-01-01)", "fullmonths(2000-01-01, @)", "fullyears(@, 2000-01-01)",
            "fullyears(2000-01-01, @)", "daysto(@, 2000-01-01)", "daysto(2000-01-01, @)", "least(@, 1990-01-01)",
            "least(1990-01-01, @)", "most(@, 1990-01-01)", "first(@)", "last(@)", "yearof(@)", "monthof(@)", "dayof(@)",
            "weekday(@)", "working(@)", "due(@)", "over(1, @, 1999-01-01)", "over(1, 1998-01-01, @)", "day on @",
            "greatest(@, kin)"},
        {"@ + 5 days", "5 days + @", "@ - 5 days", "5 days - @", "@ * 2", "2 * @", "- @", "@ = 3 months", "3 months = @",
            "day + @", "day - @", "2000-01-01 + @", "if(true, @, 1 days)", "if(false, 1 days, @)"},
        {"@ + real(2)", "real(2) + @", "@ - real(2)", "real(2) - @", "@ * real(2)", "real(2) * @", "@ / real(2)",
            "real(2) / @", "@ rem real(2)", "real(9) rem @", "- @", "root(@)", "cents(@)", "whole(@)", "size(@)",
            "@ < real(5)", "real(5) < @", "least(@, real(5))", "least(real(5), @)", "sum(@, kin)", "over(@, day, day)"},
        {"@ = state", "state = @", "@ # self", "self # @", "n of @", "pay of @", "if(true, @, self)", "if(false, self, @)"}};
    private static final Check CHECK = new Check();

    public static void main(String[] args) {
        for (int name = 0; name < EXS.length; name++) {
            for (String ex : EXS[name]) {
                furnish();
                alike(name, ex, "%s", 1, TODAY);
                alike(name, ex, "(%s) on 2000-01-01", 1, TODAY + 400);
                alike(name, ex, "(%s) of mate", 2, TODAY);
                alike(name, ex, "((%s) of mate) on 2000-01-01", 2, TODAY - 4000);
                alike(name, ex, "((%s) on 2000-01-01) of mate", 2, TODAY + 400);
            }
        }
        CHECK.end("PositionsTest");
    }

    /** PERSON 1 is the mate of 2, and alone of the kin of both; the FACTS are wrong for others, else and later. */
    private static void furnish() {
        CHECK.fresh();
        StatuteHouse house = CHECK.house;
        CHECK.due("names", CHECK.names(NAMES), 12);
        for (int person = 1; person <= 2; person++) {
            CHECK.due("person", house.person(), person);
        }
        CHECK.due("law", CHECK.enact(0, "article 1 from 1900-01-01 { table slope { 0.00: 10%; 6.00: 20%; }"
                + " table fees { 0.00: 1.00; 6.00: 2.00; 8.00: 4.00; } }"), 1);
        for (int name = 0; name < RIGHT.length; name++) {
            for (int person = 0; person <= 2; person++) {
                note(person, name, WRONG[name], 0, LAST);
            }
            note(1, name, RIGHT[name], TODAY, TODAY);
        }
        note(1, KIN, 1, 0, LAST);
        note(2, MATE, 1, 0, LAST);
        CHECK.due("pass", house.pass(TODAY + 1), 0);
        for (int name = 0; name < RIGHT.length; name++) {
            note(1, name, WRONG[name], TODAY, TODAY);
        }
    }

    private static void note(int person, int name, long first, int from, int to) {
        int before = CHECK.house.count(3);
        CHECK.due("fact", CHECK.house.fact(person, name, first, name == 3 ? 1 : 0, from, to), before + 1);
    }

    private static void alike(int name, String ex, String around, int person, int day) {
        String wanted = around.replace("%s", ex.replace("@", CONSTANTS[name]));
        String text = around.replace("%s", ex.replace("@", FACTS[name]));
        CHECK.feed(wanted);
        int kind = CHECK.house.ask(0, person, day, TODAY);
        long first = CHECK.house.value(0);
        long second = CHECK.house.value(1);
        CHECK.due(wanted + " is fine", kind >= 0 ? 1 : kind, 1);
        CHECK.feed(text);
        CHECK.due(text, CHECK.house.ask(0, person, day, TODAY), kind);
        CHECK.due(text + " first", CHECK.house.value(0), first);
        CHECK.due(text + " second", CHECK.house.value(1), second);
    }
}
