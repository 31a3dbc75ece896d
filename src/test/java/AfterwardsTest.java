import java.util.ArrayList;
import java.util.List;
import java.util.Map;
import java.util.TreeMap;
import java.util.function.Consumer;
import java.util.function.Supplier;

/**
 * What other calls show of an archive when something has been told to it: which of all answers are other
 * ones then, and that all others stay. The archive is Archives.filled().
 */
public final class AfterwardsTest {
    private static final Object ANYTHING = new Object();
    private static final int[] MEASURED = {1700, 1701, 1702, 1797, 1798, 1799};

    private final Map<String, Object> due = new TreeMap<>();

    public static void main(String[] args) {
        books();
        withdrawals();
        meanings();
        linesThatCount();
        linesAheadOfTheirBook();
        flawedLines();
        harvests();
        laws();
        readings();
        yearsLeftOut();
        mends();
        prayers();
        marks();
        calls();
        Check.end();
    }

    /** A question whose answer is due to be another one afterwards, and the answers before and then. */
    private AfterwardsTest change(String question, Object before, Object then) {
        due.put(question, before + " -> " + then);
        return this;
    }

    /** The same, where it is looked at elsewhere what the answers are. */
    private AfterwardsTest change(String question) {
        due.put(question, ANYTHING);
        return this;
    }

    private AfterwardsTest fresh(String question, Object then) {
        return change(question, Check.INDEX, then);
    }

    private AfterwardsTest freshLine(int number, String told, int... want) {
        fresh("tell(" + number + ")", told);
        for (int what = 0; what <= 5; what++) {
            fresh("ofLine(" + number + ", " + what + ")", want[what]);
        }
        return this;
    }

    private AfterwardsTest fit(int town, int... testsThatStay) {
        change("fit(" + town + ", true)").change("fit(" + town + ", false)");
        for (int year : MEASURED) {
            change("heat(" + town + ", " + year + ")").change("test(" + town + ", " + year + ")");
        }
        for (int year : testsThatStay) {
            due.remove("test(" + town + ", " + year + ")");
        }
        return this;
    }

    private void behind(String call, Consumer<Diarycold> told) {
        Supplier<Diarycold> after = () -> {
            Diarycold x = Archives.filled();
            told.accept(x);
            return x;
        };
        Map<String, String> changes = new Answers(Archives::filled).changesTo(new Answers(after));
        List<String> questions = new ArrayList<>(changes.keySet());
        Check.due("other answers behind " + call, questions, new ArrayList<>(due.keySet()));
        for (String question : questions) {
            if (due.get(question) != ANYTHING) {
                Check.due(question + " behind " + call, changes.get(question), due.get(question));
            }
        }
    }

    private static AfterwardsTest due() {
        return new AfterwardsTest().change("digest()");
    }

    private static AfterwardsTest nothing() {
        return new AfterwardsTest();
    }

    private static void books() {
        AfterwardsTest due = due().change("desk(0)", 3, 4).change("ofTown(2, 0)", 0, 1).fresh("without(3)", 0);
        int[] book = {2, 1300, 1899, 1, 0, 0, 0, 0};
        for (int what = 0; what <= 7; what++) {
            due.fresh("ofBook(3, " + what + ")", book[what]);
        }
        due.behind("a copy of a copy", x -> x.book(2, 1300, 1899, 1));
    }

    private static void withdrawals() {
        due().change("desk(1)", 1, 2).change("desk(3)", 3, 2).change("desk(4)", 1, 2)
                .change("ofBook(0, 5)", 0, 1).change("ofBook(0, 7)", 1, 0).change("ofLine(0, 1)", 0, 1)
                .change("tell(0)", "0: book 0, 1705-1-1, counts", "0: book 0, 1705-1-1, flawed 1")
                .change("degree(0, 1705, 1, 0)", -200, 300).change("degree(0, 1705, 1, 3)", 1, 0)
                .change("without(1)", 1, 2)
                .behind("a book withdrawn", x -> x.withdraw(0, true));
        due().change("desk(1)", 1, 0).change("desk(3)", 3, 4).change("desk(4)", 1, 0)
                .change("ofBook(2, 5)", 1, 0).change("ofBook(2, 7)", 0, 1).change("ofLine(5, 1)", 1, 0)
                .change("tell(5)", "5: book 2, 1800-7-7, flawed 1", "5: book 2, 1800-7-7, counts")
                .change("degree(3, 1800, 7, 0)", -999, 100).change("degree(3, 1800, 7, 1)", 0, 1)
                .change("ofTown(3, 8)", 0, 1)
                .behind("a withdrawal taken back", x -> x.withdraw(2, false));
        nothing().behind("a book withdrawn again", x -> x.withdraw(2, true));
        nothing().behind("a book not withdrawn", x -> x.withdraw(1, false));
        nothing().behind("a book withdrawn and taken back", x -> {
            x.withdraw(0, true);
            x.withdraw(0, false);
        });
    }

    private static AfterwardsTest dueInsteadOfWord0() {
        AfterwardsTest due = due().change("desk(9)", 3, 4).change("ofLine(0, 5)", -2, 1)
                .change("degree(0, 1705, 1, 0)", -200, 100);
        for (int year : new int[] {1707, 1708, 1715, 1799, 1800, 1899, 1900}) {
            due.change("means(0, " + year + ")", -2, 1);
        }
        return due;
    }

    private static void meanings() {
        dueInsteadOfWord0().behind("a later meaning", x -> x.meaning(0, 1705, 1));
        dueInsteadOfWord0().change("means(0, 1700)", -2, 1)
                .behind("another meaning of the same year", x -> x.meaning(0, 1700, 1));
        due().change("desk(9)", 3, 4).change("means(1, 1599)", -99, 0)
                .behind("an earlier meaning", x -> x.meaning(1, 1500, 0));
        due().change("desk(9)", 3, 4).behind("a meaning told again", x -> x.meaning(0, 1700, -2));
    }

    private static void linesThatCount() {
        due().change("desk(2)", 6, 7).change("desk(3)", 3, 4)
                .change("ofBook(0, 6)", 1, 2).change("ofBook(0, 7)", 1, 2)
                .freshLine(6, "6: book 0, 1705-1-31, counts", 0, 0, 1, 1705, 1, 3)
                .fresh("can(6, 0)", 622711).fresh("can(6, 1)", -1)
                .change("degree(0, 1705, 1, 0)", -200, 50).change("degree(0, 1705, 1, 1)", 1, 2)
                .change("degree(0, 1705, 1, 2)", 0, 5)
                .behind("a second witness", x -> x.line(0, 1, 0, 1705, 1, 31, 1));
        due().change("desk(2)", 6, 7).change("desk(3)", 3, 4)
                .change("ofBook(0, 6)", 1, 2).change("ofBook(0, 7)", 1, 2)
                .freshLine(6, "6: book 0, 1706-5-1, counts", 0, 0, 1, 1706, 5, -2)
                .fresh("can(6, 0)", 623166).fresh("can(6, 1)", -1)
                .change("degree(0, 1706, 5, 0)", 300, -200).change("degree(0, 1706, 5, 3)", 0, 1)
                .change("without(0)", 1, 2).change("without(1)", 1, 0)
                .behind("a line of which there was a copy", x -> x.line(0, 1, 0, 1706, 5, 1, 0));
        due().change("desk(2)", 6, 7).change("desk(3)", 3, 4)
                .change("ofBook(1, 6)", 4, 5).change("ofBook(1, 7)", 2, 3)
                .freshLine(6, "6: book 1, 1705-1-12, counts", 1, 0, 1, 1705, 1, -2)
                .fresh("can(6, 0)", 622692).fresh("can(6, 1)", -1)
                .change("degree(0, 1705, 1, 3)", 1, 2)
                .behind("a line of a copy", x -> x.line(1, 0, 0, 1705, 1, 1, 0));
    }

    /** The first year of a book bounds nothing. */
    private static void linesAheadOfTheirBook() {
        due().change("desk(2)", 6, 7).change("desk(3)", 3, 4)
                .change("ofBook(0, 6)", 1, 2).change("ofBook(0, 7)", 1, 2)
                .freshLine(6, "6: book 0, 1699-12-31, counts", 0, 0, 1, 1699, 12, 3)
                .fresh("can(6, 0)", 620854).fresh("can(6, 1)", -1)
                .change("without(0)", 1, 2).change("ofTown(0, 8)", 2, 3)
                .behind("a line ahead of the first year", x -> x.line(0, 1, 0, 1699, 12, 31, 1));
    }

    private static void flawedLines() {
        due().change("desk(2)", 6, 7).change("desk(4)", 1, 2).change("ofBook(2, 6)", 1, 2)
                .freshLine(6, "6: book 2, no day, flawed 1", 2, 1, 0, -1, -1, -99)
                .fresh("can(6, 0)", -1).fresh("can(6, 1)", -1)
                .behind("a line of a withdrawn book", x -> x.line(2, 1, 0, 1701, 2, 29, 0));
        due().change("desk(2)", 6, 7).change("desk(5)", 1, 2).change("ofBook(1, 6)", 4, 5)
                .freshLine(6, "6: book 1, no day, flawed 2", 1, 2, 0, -1, -1, -99)
                .fresh("can(6, 0)", -1).fresh("can(6, 1)", -1)
                .behind("a line of no day", x -> x.line(1, 1, 0, 1711, 2, 29, 0));
        due().change("desk(2)", 6, 7).change("desk(6)", 1, 2).change("ofBook(0, 6)", 1, 2)
                .freshLine(6, "6: book 0, 1700-4-21 or 1701-4-21, flawed 3", 0, 3, 2, 1700, 4, -2)
                .fresh("can(6, 0)", 620965).fresh("can(6, 1)", 621330)
                .behind("a line in doubt", x -> x.line(0, 0, 2, 1700, 4, 10, 0));
        due().change("desk(2)", 6, 7).change("desk(7)", 0, 1).change("ofBook(0, 6)", 1, 2)
                .freshLine(6, "6: book 0, 1711-1-1, flawed 4", 0, 4, 1, 1711, 1, -2)
                .fresh("can(6, 0)", 624872).fresh("can(6, 1)", -1)
                .behind("a line that is too late", x -> x.line(0, 1, 0, 1711, 1, 1, 0));
        due().change("desk(2)", 6, 7).change("desk(8)", 0, 1).change("ofBook(1, 6)", 4, 5)
                .freshLine(6, "6: book 1, 1705-1-31, flawed 5", 1, 5, 1, 1705, 1, -99)
                .fresh("can(6, 0)", 622711).fresh("can(6, 1)", -1)
                .behind("a line without meaning", x -> x.line(1, 1, 0, 1705, 1, 31, 7));
    }

    private static void harvests() {
        due().change("ofTown(3, 1)", 6, 7).change("ofYear(3, 1750, 0)", -1, 200)
                .change("ofYear(3, 1750, 1)", -1, 170).change("heat(3, 1750)")
                .behind("a harvest without a reading", x -> x.harvest(3, 1750, 200));
        due().change("ofYear(2, 1702, 0)", 222, 290).change("ofYear(2, 1702, 1)", 222, 290).fit(2)
                .behind("a harvest told anew", x -> x.harvest(2, 1702, 290));
        new AfterwardsTest().change("ofYear(0, 1701, 0)", 207, 208).change("ofYear(0, 1701, 1)", 207, 208)
                .change("heat(0, 1701)").change("test(0, 1701)")
                .behind("a harvest of a year left out", x -> x.harvest(0, 1701, 208));
        nothing().behind("a harvest told again", x -> x.harvest(2, 1702, 222));
    }

    private static void laws() {
        AfterwardsTest due = due().change("desk(10)", 2, 3).change("ofTown(1, 7)", 0, 1).fit(1)
                .change("ofYear(1, 1701, 1)", 208, 204).change("ofYear(1, 1702, 1)", 218, 214)
                .change("ofYear(1, 1797, 1)", 230, 226);
        for (int year = 1701; year <= 1797; year++) {
            due.change("ofYear(1, " + year + ", 3)", 0, 4);
        }
        due.behind("a law", x -> x.law(1, 1701, 1797, 4));
        due().change("desk(10)", 2, 3).change("ofTown(3, 7)", 1, 2).change("ofYear(3, 1750, 3)", 30, 60)
                .behind("a second law of one year", x -> x.law(3, 1750, 1750, 30));
        due().change("desk(10)", 2, 3).change("ofTown(1, 7)", 0, 1)
                .behind("a law of no days", x -> x.law(1, 1700, 1799, 0));
    }

    private static void readings() {
        due().change("ofTown(1, 2)", 6, 7).change("ofYear(1, 1750, 2)", -999, -300)
                .behind("a reading alone", x -> x.reading(1, 1750, -300));
        due().change("ofYear(2, 1700, 2)", 20, 80).fit(2)
                .change("ofBreak(0, 2)", 120, 126).change("ofBreak(1, 2)", -94, -88)
                .change("ofBreak(2, 2)", -280, -300).change("ofBreak(3, 2)", 254, 261)
                .behind("a reading told anew", x -> x.reading(2, 1700, 80));
        nothing().behind("a reading told again", x -> x.reading(2, 1700, 20));
    }

    private static void yearsLeftOut() {
        due().change("ofTown(1, 3)", 6, 5).change("ofYear(1, 1701, 4)", 1, 0).fit(1, 1701)
                .behind("a year left out", x -> x.leaveOut(1, 1701, true));
        due().change("ofTown(0, 3)", 5, 6).change("ofYear(0, 1701, 4)", 0, 1).fit(0, 1701)
                .behind("a year taken back", x -> x.leaveOut(0, 1701, false));
        nothing().behind("a year left out again", x -> x.leaveOut(0, 1701, true));
        nothing().behind("a year left out that has nothing", x -> x.leaveOut(0, 1750, true));
    }

    private static void mends() {
        due().change("ofYear(1, 1700, 2)", 10, -84).change("ofYear(1, 1701, 2)", 11, -83)
                .change("ofYear(1, 1702, 2)", 10, -84).fit(1)
                .change("ofBreak(1, 0)", 1797, -1).change("ofBreak(1, 1)", 3, -1).change("ofBreak(1, 2)", -94, -999)
                .change("ofBreak(0, 2)", 120, 89).change("ofBreak(2, 2)", -280, -311)
                .change("ofBreak(3, 2)", 254, 223)
                .behind("a town mended", x -> x.mend(1));
    }

    private static void prayers() {
        due().change("drought(0, 0, 1)", 2, 3).change("drought(0, 0, 2)", 20, 28).change("ofTown(0, 5)", 2, 3)
                .behind("the month behind a drought", x -> x.prayer(0, 1713, 2, 4));
        due().change("drought(0, 0, 0)", 20555, 20554).change("drought(0, 0, 1)", 2, 3)
                .change("drought(0, 0, 2)", 20, 21).change("ofTown(0, 5)", 2, 3)
                .behind("the month ahead of a drought", x -> x.prayer(0, 1712, 11, 1));
        due().change("drought(0, 0, 2)", 20, 32)
                .behind("a greater rung", x -> x.prayer(0, 1713, 1, 5));
        nothing().behind("a lesser rung", x -> x.prayer(0, 1712, 12, 4));
        new AfterwardsTest().change("digest()").change("ofTown(0, 4)", 1, 2)
                .change("drought(0, 1, 0)", -1, 20558).change("drought(0, 1, 1)", -1, 1)
                .change("drought(0, 1, 2)", -1, 2).change("drought(0, 1, 3)", -1, 2)
                .behind("a later drought", x -> x.prayer(0, 1713, 3, 2));
        due().change("ofTown(0, 4)", 1, 2)
                .change("drought(0, 0, 0)", 20555, 20400).change("drought(0, 0, 1)", 2, 1)
                .change("drought(0, 0, 2)", 20, 1).change("drought(0, 0, 3)", 5, 1)
                .change("drought(0, 1, 0)", -1, 20555).change("drought(0, 1, 1)", -1, 2)
                .change("drought(0, 1, 2)", -1, 20).change("drought(0, 1, 3)", -1, 5)
                .behind("an earlier drought", x -> x.prayer(0, 1700, 1, 1));
    }

    private static void marks() {
        due().change("desk(11)", 3, 4).change("ofTown(0, 6)", 2, 3).change("returns(0, 1)", 98.5, 100.0)
                .change("returns(0, 50)", 98.5, 100.0).change("returns(0, 99)", 98.5, 100.0)
                .behind("an earlier mark", x -> x.mark(0, 1600, 110));
        AfterwardsTest due = due().change("desk(11)", 3, 4).change("ofTown(1, 6)", 0, 1);
        for (int height = 1; height <= 999; height += 49) {
            due.change("returns(1, " + height + ")", 0.0, 1.0);
        }
        due.behind("a first mark", x -> x.mark(1, 1899, 999));
    }

    private static void calls() {
        due().change("desk(12)", 1, 2).behind("a call for the librarian", Diarycold::call);
    }
}
