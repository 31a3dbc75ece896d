/** Promises 1 to 5, 17 to 20 and 30: books, words and lines. */
public final class BooksTest {
    public static void main(String[] args) {
        newObject();
        books();
        withdrawals();
        meanings();
        days();
        ladyDay();
        flaws();
        firstFlaw();
        lateByAnotherCalendar();
        edgesOfMeanings();
        linesOfNextYears();
        edgesOfLines();
        telling();
        limits();
        Check.end();
    }

    private static void newObject() {
        Diarycold x = new Diarycold();
        for (int what = 0; what <= 12; what++) {
            Check.due("new desk(" + what + ")", x.desk(what), 0);
        }
        for (int town = 0; town < 4; town++) {
            for (int what = 0; what <= 8; what++) {
                Check.due("new ofTown(" + town + ", " + what + ")", x.ofTown(town, what), 0);
            }
        }
        Check.due("new means", x.means(0, 1700), -99);
        Check.due("new isSound", x.isSound(), true);
        Check.due("two objects are apart", new Diarycold().book(0, 1700, 1700, -1), 0);
        Check.due("new desk(0) still", x.desk(0), 0);
    }

    private static void books() {
        Diarycold x = new Diarycold();
        Check.due("book 0", x.book(3, 1200, 1899, -1), 0);
        Check.due("book 1", x.book(1, 1700, 1700, 0), 1);
        Check.due("book 2", x.book(0, 1300, 1400, 1), 2);
        Check.due("book 3", x.book(2, 1300, 1400, -1), 3);
        int[][] want = {{3, 1200, 1899, -1, 0, 0, 0, 0}, {1, 1700, 1700, 0, 0, 0, 0, 0},
            {0, 1300, 1400, 1, 0, 0, 0, 0}, {2, 1300, 1400, -1, 3, 0, 0, 0}};
        for (int book = 0; book < 4; book++) {
            for (int what = 0; what <= 7; what++) {
                Check.due("ofBook(" + book + ", " + what + ")", x.ofBook(book, what), want[book][what]);
            }
        }
        x.withdraw(0, true);
        Check.due("the root stays, withdrawn or not", x.ofBook(2, 4), 0);
        Check.due("copied from a withdrawn one", x.book(0, 1300, 1300, 0), 4);
        Check.due("its root", x.ofBook(4, 4), 0);
        Check.due("copied from the one before", x.book(0, 1300, 1300, 4), 5);
        Check.due("from which", x.ofBook(5, 3), 4);
        Check.due("the root of that", x.ofBook(5, 4), 0);
        Check.due("copied from one that is no copy", x.book(0, 1300, 1300, 3), 6);
        Check.due("the other root", x.ofBook(6, 4), 3);
    }

    private static void withdrawals() {
        Diarycold x = new Diarycold();
        x.book(0, 1700, 1710, -1);
        x.book(0, 1700, 1710, -1);
        Check.due("withdraw", x.withdraw(1, true), false);
        Check.due("withdraw again", x.withdraw(1, true), true);
        Check.due("withdrawn", x.ofBook(1, 5), 1);
        Check.due("not withdrawn", x.ofBook(0, 5), 0);
        Check.due("desk(1)", x.desk(1), 1);
        x.withdraw(0, true);
        Check.due("desk(1), both", x.desk(1), 2);
        x.withdraw(0, false);
        Check.due("take back", x.withdraw(1, false), true);
        Check.due("take back again", x.withdraw(1, false), false);
        Check.due("not withdrawn any more", x.ofBook(1, 5), 0);
    }

    private static void meanings() {
        Diarycold x = new Diarycold();
        Check.due("meaning 1", x.meaning(7, 1500, 3), 1);
        Check.due("meaning 2", x.meaning(7, 1400, -3), 2);
        Check.due("meaning 3", x.meaning(7, 1500, 0), 3);
        Check.due("meaning 4", x.meaning(6, 1899, 1), 4);
        Check.due("before all", x.means(7, 1399), -99);
        Check.due("of the first year on", x.means(7, 1400), -3);
        Check.due("till the next one", x.means(7, 1499), -3);
        Check.due("the one told last", x.means(7, 1500), 0);
        Check.due("from then on", x.means(7, 1900), 0);
        Check.due("another word before", x.means(6, 1898), -99);
        Check.due("another word", x.means(6, 1900), 1);
        Check.due("a word without", x.means(5, 1900), -99);
        x.meaning(7, 1450, 2);
        Check.due("an earlier year told later changes nothing", x.means(7, 1500), 0);
        Check.due("but in its years", x.means(7, 1450), 2);
        Check.due("desk(9)", x.desk(9), 5);
    }

    private static void days() {
        Diarycold x = new Diarycold();
        x.book(0, 1200, 1899, -1);
        Check.due("line 0", x.line(0, 0, 0, 1700, 12, 31, 0), 0);
        Check.due("line 1", x.line(0, 0, 2, 1700, 4, 10, 0), 1);
        Check.due("line 2", x.line(0, 0, 2, 1701, 4, 10, 0), 2);
        Check.due("line 3", x.line(0, 1, 1, 1700, 3, 24, 0), 3);
        Check.due("line 4", x.line(0, 0, 1, 1899, 2, 29, 0), 4);
        Check.due("one day", x.can(0, 0), x.number(0, 1700, 12, 31));
        Check.due("no second one", x.can(0, 1), -1);
        Check.due("first of two", x.can(1, 0), x.number(0, 1700, 4, 10));
        Check.due("second of two", x.can(1, 1), x.number(0, 1701, 4, 10));
        Check.due("no third one", x.can(1, 2), -1);
        Check.due("none", x.can(2, 0), -1);
        Check.due("of the next year", x.can(3, 0), x.number(1, 1701, 3, 24));
        Check.due("not two of them", x.can(3, 1), -1);
        int[][] want = {{0, 5, 1, 1701, 1, -99}, {0, 3, 2, 1700, 4, -99}, {0, 2, 0, -1, -1, -99},
            {0, 5, 1, 1701, 3, -99}, {0, 4, 1, 1900, 3, -99}};
        for (int line = 0; line < want.length; line++) {
            for (int what = 0; what <= 5; what++) {
                Check.due("ofLine(" + line + ", " + what + ")", x.ofLine(line, what), want[line][what]);
            }
        }
    }

    private static void ladyDay() {
        int[][] dates = {{3, 24, 1701}, {3, 25, 1700}, {3, 26, 1700}, {3, 1, 1701}, {4, 1, 1700}, {4, 24, 1700},
            {2, 28, 1701}, {12, 31, 1700}, {1, 1, 1701}, {1, 31, 1701}};
        Diarycold x = new Diarycold();
        x.book(0, 1200, 1899, -1);
        for (int i = 0; i < dates.length; i++) {
            x.line(0, 1, 1, 1700, dates[i][0], dates[i][1], 0);
            Check.due("year of " + dates[i][1] + ". " + dates[i][0] + ".", x.ofLine(i, 3), dates[i][2]);
            Check.due("month of " + dates[i][1] + ". " + dates[i][0] + ".", x.ofLine(i, 4), dates[i][0]);
        }
    }

    private static void flaws() {
        Diarycold x = new Diarycold();
        x.book(0, 1700, 1710, -1);
        x.meaning(1, 1700, 2);
        x.line(0, 1, 0, 1710, 12, 31, 1);
        x.line(0, 1, 0, 1711, 1, 1, 1);
        x.line(0, 1, 0, 1699, 12, 31, 1);
        x.line(0, 1, 0, 1711, 1, 1, 0);
        x.line(0, 1, 2, 1704, 4, 1, 0);
        x.line(0, 1, 0, 1703, 2, 29, 0);
        x.line(0, 1, 0, 1700, 1, 1, 1);
        int[] want = {0, 4, 5, 4, 3, 2, 0};
        for (int line = 0; line < want.length; line++) {
            Check.due("flaw of " + line, x.ofLine(line, 1), want[line]);
        }
        Check.due("degree of a flawed line", x.ofLine(1, 5), 2);
        Check.due("its lines", x.ofBook(0, 6), 7);
        Check.due("those that count", x.ofBook(0, 7), 2);
        x.book(0, 1700, 1710, -1);
        Check.due("lines of another book", x.ofBook(1, 6), 0);
        Check.due("those that count of another book", x.ofBook(1, 7), 0);
        int[] desk = {2, 0, 7, 2, 0, 1, 1, 2, 1, 1};
        for (int what = 0; what < desk.length; what++) {
            Check.due("desk(" + what + ")", x.desk(what), desk[what]);
        }
        x.meaning(1, 1600, -1);
        Check.due("a meaning told later", x.ofLine(2, 1), 0);
        Check.due("its degree", x.ofLine(2, 5), -1);
        x.withdraw(0, true);
        for (int line = 0; line < want.length; line++) {
            Check.due("flaw of " + line + ", withdrawn", x.ofLine(line, 1), 1);
        }
        Check.due("none counts, withdrawn", x.ofBook(0, 7), 0);
        Check.due("desk(4), withdrawn", x.desk(4), 7);
        x.withdraw(0, false);
        Check.due("counts again", x.ofLine(0, 1), 0);
    }

    /** Where several flaws hold, it is the first of them. */
    private static void firstFlaw() {
        Diarycold x = new Diarycold();
        x.book(0, 1650, 1699, -1);
        x.book(0, 1650, 1710, -1);
        x.line(0, 1, 2, 1704, 4, 1, 0);
        x.line(0, 1, 0, 1700, 1, 1, 0);
        x.line(0, 1, 0, 1703, 2, 29, 0);
        x.line(1, 1, 2, 1704, 4, 1, 0);
        x.line(1, 1, 0, 1700, 1, 1, 0);
        Check.due("in doubt, too late, without meaning", x.ofLine(0, 1), 3);
        Check.due("too late, without meaning", x.ofLine(1, 1), 4);
        Check.due("on no day, without meaning", x.ofLine(2, 1), 2);
        Check.due("in doubt, without meaning", x.ofLine(3, 1), 3);
        Check.due("without meaning", x.ofLine(4, 1), 5);
        x.meaning(0, 1700, 0);
        Check.due("in doubt, too late", x.ofLine(0, 1), 3);
        Check.due("too late", x.ofLine(1, 1), 4);
        Check.due("on no day", x.ofLine(2, 1), 2);
        Check.due("in doubt", x.ofLine(3, 1), 3);
        Check.due("counts", x.ofLine(4, 1), 0);
        x.withdraw(0, true);
        for (int line = 0; line < 3; line++) {
            Check.due("withdrawn and flawed besides", x.ofLine(line, 1), 1);
        }
        Check.due("of a book that is not withdrawn", x.ofLine(4, 1), 0);
    }

    /** A day of the last year of a book can lie in the next year by the new calendar. */
    private static void lateByAnotherCalendar() {
        Diarycold x = new Diarycold();
        x.book(0, 1710, 1710, -1);
        x.meaning(0, 1710, 1);
        x.line(0, 0, 0, 1710, 12, 20, 0);
        x.line(0, 0, 0, 1710, 12, 21, 0);
        x.line(0, 1, 1, 1710, 3, 24, 0);
        x.line(0, 1, 1, 1710, 3, 25, 0);
        x.line(0, 1, 1, 1709, 3, 24, 0);
        Check.due("the last day", x.tell(0), "0: book 0, 1710-12-31, counts");
        Check.due("the day behind it", x.tell(1), "1: book 0, 1711-1-1, flawed 4");
        Check.due("the end of that year", x.tell(2), "2: book 0, 1711-3-24, flawed 4");
        Check.due("its beginning", x.tell(3), "3: book 0, 1710-3-25, counts");
        Check.due("the end of the year before", x.tell(4), "4: book 0, 1710-3-24, counts");
    }

    private static void edgesOfMeanings() {
        Diarycold x = new Diarycold();
        Check.due("from the first year on", x.meaning(0, 1200, -3), 1);
        Check.due("from the last year on", x.meaning(7, 1899, 3), 2);
        Check.due("in the first year", x.means(0, 1200), -3);
        Check.due("in 1900", x.means(0, 1900), -3);
        Check.due("ahead of the last year", x.means(7, 1898), -99);
        Check.due("in the last year", x.means(7, 1899), 3);
        Check.due("behind it", x.means(7, 1900), 3);
        x.meaning(0, 1200, 0);
        Check.due("0 is a degree, too", x.means(0, 1200), 0);
    }

    /** A line of a day in the next year keeps its word and its book, which is a copy and not the root. */
    private static void linesOfNextYears() {
        Diarycold x = new Diarycold();
        x.book(0, 1700, 1899, -1);
        x.book(0, 1700, 1899, 0);
        x.meaning(3, 1700, -1);
        x.line(1, 1, 1, 1817, 3, 24, 3);
        x.line(1, 1, 1, 1818, 3, 24, 3);
        x.line(1, 1, 2, 1818, 2, 1, 3);
        x.line(1, 0, 2, 1700, 4, 10, 3);
        int[][] want = {{1, 0, 1, 1818, 3, -1}, {1, 0, 1, 1819, 3, -1}, {1, 0, 1, 1819, 2, -1}, {1, 3, 2, 1700, 4, -1}};
        for (int line = 0; line < want.length; line++) {
            for (int what = 0; what <= 5; what++) {
                Check.due("ofLine(" + line + ", " + what + ")", x.ofLine(line, what), want[line][what]);
            }
        }
    }

    private static void edgesOfLines() {
        Diarycold x = new Diarycold();
        x.book(0, 1200, 1899, -1);
        x.meaning(0, 1200, 3);
        x.line(0, 0, 0, 1200, 1, 1, 0);
        x.line(0, 1, 0, 1200, 1, 1, 0);
        x.line(0, 1, 0, 1899, 12, 31, 0);
        x.line(0, 0, 0, 1899, 12, 19, 0);
        x.line(0, 0, 0, 1899, 12, 20, 0);
        x.line(0, 1, 1, 1899, 3, 24, 0);
        x.line(0, 1, 2, 1899, 4, 2, 0);
        x.line(0, 0, 2, 1899, 4, 9, 0);
        String[] want = {"0: book 0, 1200-1-8, counts", "1: book 0, 1200-1-1, counts", "2: book 0, 1899-12-31, counts",
            "3: book 0, 1899-12-31, counts", "4: book 0, 1900-1-1, flawed 4", "5: book 0, 1900-3-24, flawed 4",
            "6: book 0, 1899-4-2 or 1900-4-2, flawed 3", "7: book 0, no day, flawed 2"};
        for (int line = 0; line < want.length; line++) {
            Check.due("tell(" + line + ")", x.tell(line), want[line]);
        }
        Check.due("year 1900", x.ofLine(4, 3), 1900);
        Check.due("degree in 1900", x.ofLine(4, 5), 3);
        Check.due("index of the first month", x.degree(0, 1200, 1, 1), 2);
        Check.due("index of the last month", x.degree(0, 1899, 12, 1), 2);
        Check.due("no index in 1900", x.degree(0, 1900, 1, 0), -999);
    }

    private static void telling() {
        Diarycold x = new Diarycold();
        x.book(0, 1700, 1720, -1);
        x.book(2, 1700, 1720, -1);
        x.meaning(0, 1600, 0);
        x.line(1, 1, 0, 1712, 1, 9, 0);
        x.line(0, 0, 2, 1700, 4, 10, 0);
        x.line(0, 0, 2, 1701, 4, 10, 0);
        x.line(0, 0, 1, 1700, 12, 25, 1);
        Check.due("tell(0)", x.tell(0), "0: book 1, 1712-1-9, counts");
        Check.due("tell(1)", x.tell(1), "1: book 0, 1700-4-21 or 1701-4-21, flawed 3");
        Check.due("tell(2)", x.tell(2), "2: book 0, no day, flawed 2");
        Check.due("tell(3)", x.tell(3), "3: book 0, 1701-1-5, flawed 5");
        x.withdraw(1, true);
        Check.due("tell(0), withdrawn", x.tell(0), "0: book 1, 1712-1-9, flawed 1");
    }

    private static void limits() {
        Diarycold x = new Diarycold();
        for (int i = 0; i < 8; i++) {
            Check.due("book " + i, x.book(i % 4, 1700, 1799, i - 1), i);
        }
        Check.refuses(x, "a ninth book", () -> x.book(0, 1700, 1799, -1), Check.STATE);
        for (int i = 0; i < 16; i++) {
            Check.due("meaning " + i, x.meaning(i % 8, 1700, i % 7 - 3), i + 1);
        }
        Check.refuses(x, "a 17th meaning", () -> x.meaning(0, 1700, 0), Check.STATE);
        for (int i = 0; i < 40; i++) {
            Check.due("line " + i, x.line(i % 8, 1, 0, 1750, 1 + i % 12, 1, i % 8), i);
        }
        Check.refuses(x, "a 41st line", () -> x.line(0, 1, 0, 1750, 1, 1, 0), Check.STATE);
        Check.due("tell(39)", x.tell(39), "39: book 7, 1750-4-1, counts");
        Check.due("root of the last", x.ofBook(7, 4), 0);
    }
}
