/** Promises 21 and 31, and ofTown() of 8: witnesses, index and doubt by month, and what a book changes. */
public final class DegreesTest {
    public static void main(String[] args) {
        gaps();
        copies();
        copiesFromAnotherTown();
        rounding();
        bounds();
        manyWitnesses();
        withoutBooks();
        withoutByMonth();
        withoutByDegree();
        Check.end();
    }

    private static void degrees(Diarycold x, String when, int town, int year, int month, int... want) {
        for (int what = 0; what <= 3; what++) {
            Check.due("degree(" + what + ") " + when, x.degree(town, year, month, what), want[what]);
        }
    }

    private static void meanings(Diarycold x) {
        for (int word = 0; word <= 6; word++) {
            x.meaning(word, 1200, word - 3);
        }
    }

    private static void gaps() {
        Diarycold x = new Diarycold();
        degrees(x, "without lines", 0, 1700, 1, -999, 0, 0, 0);
        degrees(x, "at the first year", 3, 1200, 12, -999, 0, 0, 0);
        degrees(x, "at the last year", 3, 1900, 12, -999, 0, 0, 0);
        x.book(0, 1700, 1710, -1);
        x.meaning(0, 1700, 1);
        x.line(0, 1, 0, 1711, 5, 1, 0);
        degrees(x, "with a flawed line", 0, 1711, 5, -999, 0, 0, 0);
        x.line(0, 1, 0, 1710, 5, 1, 0);
        degrees(x, "with a line", 0, 1710, 5, 100, 1, 0, 0);
        degrees(x, "of another town", 1, 1710, 5, -999, 0, 0, 0);
        degrees(x, "of another month", 0, 1710, 6, -999, 0, 0, 0);
        degrees(x, "of another year", 0, 1709, 5, -999, 0, 0, 0);
        x.line(0, 0, 0, 1710, 4, 25, 0);
        degrees(x, "with a line by the old calendar", 0, 1710, 5, 100, 2, 0, 0);
        Check.due("months with an index", x.ofTown(0, 8), 1);
        x.line(0, 1, 0, 1709, 5, 1, 0);
        Check.due("May of two years is two", x.ofTown(0, 8), 2);
    }

    private static void copies() {
        Diarycold x = new Diarycold();
        meanings(x);
        x.book(1, 1200, 1899, -1);
        x.book(1, 1200, 1899, 0);
        x.book(1, 1200, 1899, 1);
        x.book(1, 1200, 1899, -1);
        x.line(2, 1, 0, 1750, 6, 1, 6);
        degrees(x, "by a copy", 1, 1750, 6, 300, 1, 0, 0);
        x.line(1, 1, 0, 1750, 6, 2, 0);
        x.line(1, 1, 0, 1750, 6, 3, 2);
        degrees(x, "by an earlier copy", 1, 1750, 6, -200, 2, 2, 1);
        x.line(3, 1, 0, 1750, 6, 4, 5);
        degrees(x, "by another root", 1, 1750, 6, -66, 3, 5, 1);
        x.line(0, 1, 0, 1750, 7, 4, 5);
        degrees(x, "an original of another month", 1, 1750, 6, -66, 3, 5, 1);
        x.line(0, 1, 0, 1750, 6, 4, 7);
        degrees(x, "an original that says nothing", 1, 1750, 6, -66, 3, 5, 1);
        x.line(0, 1, 0, 1750, 6, 30, 3);
        degrees(x, "by the original", 1, 1750, 6, 100, 2, 2, 3);
        x.withdraw(0, true);
        degrees(x, "without the original", 1, 1750, 6, -66, 3, 5, 1);
        x.withdraw(1, true);
        degrees(x, "without the earlier copy", 1, 1750, 6, 250, 2, 1, 0);
    }

    private static void copiesFromAnotherTown() {
        Diarycold x = new Diarycold();
        meanings(x);
        x.book(0, 1200, 1899, -1);
        x.book(1, 1200, 1899, 0);
        x.book(1, 1200, 1899, 0);
        x.line(0, 1, 0, 1750, 6, 1, 6);
        x.line(2, 1, 0, 1750, 6, 1, 5);
        degrees(x, "a copy for another town", 1, 1750, 6, 200, 1, 0, 0);
        x.line(1, 1, 0, 1750, 6, 1, 4);
        degrees(x, "two copies of one book of another town", 1, 1750, 6, 100, 1, 0, 1);
        degrees(x, "the original's town", 0, 1750, 6, 300, 1, 0, 0);
    }

    private static void rounding() {
        Diarycold x = new Diarycold();
        meanings(x);
        x.book(0, 1200, 1899, -1);
        x.line(0, 1, 0, 1750, 6, 1, 2);
        x.line(0, 1, 0, 1750, 6, 1, 3);
        x.line(0, 1, 0, 1750, 6, 1, 3);
        degrees(x, "below 0, rounded toward 0", 0, 1750, 6, -33, 3, 1, 0);
        x.line(0, 1, 0, 1750, 6, 1, 6);
        x.line(0, 1, 0, 1750, 6, 1, 3);
        x.line(0, 1, 0, 1750, 6, 1, 3);
        degrees(x, "above 0, rounded toward 0", 0, 1750, 6, 33, 6, 4, 0);
    }

    private static void bounds() {
        Diarycold x = new Diarycold();
        meanings(x);
        x.book(0, 1200, 1899, -1);
        x.line(0, 1, 0, 1750, 6, 1, 0);
        x.line(0, 1, 0, 1750, 7, 1, 6);
        degrees(x, "at the least", 0, 1750, 6, -300, 1, 0, 0);
        degrees(x, "at the greatest", 0, 1750, 7, 300, 1, 0, 0);
        Check.due("both are sound", x.isSound(), true);
    }

    /** All 40 lines in one month, of a book and, one of them, of its copy. */
    private static void manyWitnesses() {
        Diarycold x = new Diarycold();
        meanings(x);
        x.book(0, 1200, 1899, -1);
        x.book(0, 1200, 1899, 0);
        x.book(0, 1200, 1899, 1);
        for (int i = 0; i < 39; i++) {
            x.line(1, 1, 0, 1750, 1, 1 + i % 31, i < 20 ? 0 : 6);
        }
        degrees(x, "with 39 witnesses", 0, 1750, 1, -7, 39, 6, 0);
        x.line(2, 1, 0, 1750, 1, 1, 6);
        degrees(x, "with 39 witnesses and a copied one", 0, 1750, 1, -7, 39, 6, 1);
        Check.due("without the copy nothing changes", x.without(2), 0);
        Check.due("without the book it does", x.without(1), 1);
        x.withdraw(1, true);
        degrees(x, "with the copied one alone", 0, 1750, 1, 300, 1, 0, 0);
    }

    private static void withoutBooks() {
        Diarycold x = new Diarycold();
        meanings(x);
        x.book(0, 1200, 1899, -1);
        x.book(0, 1200, 1899, 0);
        x.book(0, 1200, 1899, -1);
        Check.due("without lines", x.without(0), 0);
        x.line(0, 1, 0, 1750, 6, 1, 4);
        x.line(0, 1, 0, 1750, 6, 2, 4);
        Check.due("a month with a line", x.without(0), 1);
        x.line(1, 1, 0, 1750, 6, 3, 4);
        Check.due("a copy that says the same", x.without(0), 0);
        Check.due("without the copy", x.without(1), 0);
        x.line(1, 1, 0, 1750, 6, 4, 6);
        Check.due("a copy that says more", x.without(0), 1);
        Check.due("without that copy", x.without(1), 0);
        long before = x.digest();
        x.without(0);
        Check.due("nothing is changed", x.digest(), before);
        x.withdraw(0, true);
        Check.due("a withdrawn one", x.without(0), 1);
        Check.due("the copy then", x.without(1), 1);
        x.withdraw(1, true);
        Check.due("the copy, withdrawn", x.without(1), 1);
        Check.due("the original, withdrawn", x.without(0), 1);
        x.line(2, 1, 0, 1750, 6, 9, 4);
        Check.due("another book says the same", x.without(0), 0);
    }

    /** A book alone in its month is missed there, whatever it says. */
    private static void withoutByDegree() {
        for (int word = 0; word <= 6; word++) {
            Diarycold x = new Diarycold();
            meanings(x);
            x.book(0, 1200, 1899, -1);
            x.book(0, 1200, 1899, 0);
            x.line(1, 1, 0, 1750, 6, 1, word);
            Check.due("without the only line, of " + (word - 3), x.without(1), 1);
            x.line(0, 1, 0, 1750, 6, 1, word);
            Check.due("without a copied one, of " + (word - 3), x.without(1), 0);
            x.withdraw(0, true);
            x.withdraw(1, true);
            Check.due("with the only one again, of " + (word - 3), x.without(1), 1);
        }
    }

    private static void withoutByMonth() {
        Diarycold x = new Diarycold();
        meanings(x);
        x.book(2, 1200, 1750, -1);
        x.line(0, 1, 0, 1750, 6, 1, 4);
        x.line(0, 1, 0, 1750, 7, 1, 4);
        x.line(0, 1, 0, 1749, 7, 1, 3);
        x.line(0, 1, 0, 1751, 7, 1, 3);
        x.line(0, 1, 0, 1749, 8, 1, 7);
        x.line(0, 1, 0, 1749, 2, 29, 3);
        x.line(0, 1, 2, 1704, 4, 1, 3);
        x.line(0, 1, 0, 1750, 6, 30, 5);
        Check.due("three months", x.without(0), 3);
        Check.due("months with an index", x.ofTown(2, 8), 3);
        x.withdraw(0, true);
        Check.due("three months, withdrawn", x.without(0), 3);
        Check.due("months with an index, withdrawn", x.ofTown(2, 8), 0);
    }
}
