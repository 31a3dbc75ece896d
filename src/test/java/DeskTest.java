import java.util.function.Supplier;

/** Promises 13, 28, 29, 34 and 35: the librarian, counts, soundness and the checksum. */
public final class DeskTest {
    public static void main(String[] args) {
        calls();
        manyCalls();
        counts();
        countsOfFull();
        soundness();
        checksumOfNew();
        checksum(DeskTest::filled);
        checksum(Archives::filled);
        checksum(Archives::full);
        checksum(Archives::empty);
        cutting();
        Check.end();
    }

    private static void calls() {
        Diarycold x = new Diarycold();
        for (int i = 1; i <= 5; i++) {
            Check.due("call " + i, x.call(), i);
        }
        Check.due("refused", x.desk(12), 5);
        Check.due("of another object", new Diarycold().call(), 1);
    }

    /** All calls for which an archive is used. */
    private static void manyCalls() {
        Diarycold x = new Diarycold();
        for (int i = 1; i <= 510; i++) {
            Check.due("call " + i, x.call(), i);
        }
        Check.due("refused", x.desk(12), 510);
        Check.due("the 512th call", x.call(), 511);
    }

    private static Diarycold filled() {
        Diarycold x = new Diarycold();
        x.book(0, 1700, 1720, -1);
        x.book(0, 1700, 1720, 0);
        x.book(3, 1700, 1720, -1);
        x.withdraw(2, true);
        x.meaning(0, 1700, -2);
        x.meaning(1, 1700, 3);
        x.line(0, 1, 0, 1710, 5, 5, 0);
        x.line(1, 1, 0, 1710, 5, 6, 1);
        x.line(1, 1, 0, 1711, 5, 6, 1);
        x.line(1, 1, 0, 1711, 2, 29, 1);
        x.line(1, 0, 2, 1711, 4, 5, 1);
        x.line(0, 1, 0, 1721, 4, 5, 1);
        x.line(0, 1, 0, 1720, 4, 5, 2);
        x.line(2, 1, 0, 1720, 4, 5, 1);
        for (int year = 1700; year < 1706; year++) {
            x.harvest(0, year, 250 + 3 * (year - 1700) * (year % 2));
            x.reading(0, year, 100 - (year - 1700) * (year - 1700));
            x.harvest(2, year, 250 + year % 2);
            x.reading(2, year, year % 2 * 301 + year % 3);
            x.reading(3, year, year < 1703 ? 0 : 99);
        }
        x.law(0, 1702, 1704, 5);
        x.leaveOut(0, 1701, true);
        x.prayer(0, 1720, 12, 5);
        x.prayer(0, 1721, 1, 3);
        x.prayer(0, 1722, 1, 1);
        x.mark(0, 1703, 120);
        x.mark(0, 1803, 100);
        x.mark(0, 1899, 500);
        x.mark(0, 1899, 99);
        x.call();
        return x;
    }

    private static void counts() {
        Diarycold x = filled();
        desk(x, "of a filled one", 3, 1, 8, 3, 1, 1, 1, 1, 1, 2, 1, 4, 1);
        int[] town = {2, 6, 6, 5, 2, 2, 4, 1, 2};
        for (int what = 0; what <= 8; what++) {
            Check.due("ofTown(0, " + what + ")", x.ofTown(0, what), town[what]);
        }
        int[] other = {1, 0, 6, 0, 0, 0, 0, 0, 0};
        for (int what = 0; what <= 8; what++) {
            Check.due("ofTown(3, " + what + ")", x.ofTown(3, what), other[what]);
        }
        Check.due("isSound", x.isSound(), true);
    }

    private static void countsOfFull() {
        Diarycold x = Archives.full();
        desk(x, "of a full one", 8, 0, 40, 40, 0, 0, 0, 0, 0, 16, 8, 20, 0);
        Check.due("a ninth book", () -> x.book(0, 1700, 1899, 7), Check.STATE);
        Check.due("a 17th meaning", () -> x.meaning(7, 1899, 3), Check.STATE);
        Check.due("a 41st line", () -> x.line(7, 1, 2, 1899, 12, 31, 7), Check.STATE);
        Check.due("a ninth law", () -> x.law(3, 1799, 1799, 30), Check.STATE);
        Check.due("a 21st mark", () -> x.mark(3, 1899, 999), Check.STATE);
        desk(x, "still", 8, 0, 40, 40, 0, 0, 0, 0, 0, 16, 8, 20, 0);
        int[] town = {2, 0, 4, 0, 0, 0, 5, 2, 3};
        for (int i = 0; i < 4 * town.length; i++) {
            int what = i % town.length;
            Check.due("full: ofTown(" + i / town.length + ", " + what + ")", x.ofTown(i / town.length, what), town[what]);
        }
        for (int book = 0; book < 8; book++) {
            Check.due("lines of a book", x.ofBook(book, 6), 5);
            Check.due("those that count", x.ofBook(book, 7), 5);
            x.withdraw(book, true);
        }
        desk(x, "all withdrawn", 8, 8, 40, 0, 40, 0, 0, 0, 0, 16, 8, 20, 0);
        Check.due("withdrawn books are books of the town", x.ofTown(3, 0), 2);
        Check.due("months with an index, all withdrawn", x.ofTown(3, 8), 0);
    }

    private static void desk(Diarycold x, String when, int... want) {
        for (int what = 0; what <= 12; what++) {
            Check.due("desk(" + what + ") " + when, x.desk(what), want[what]);
        }
    }

    private static void soundness() {
        Check.due("an empty one is sound", Archives.empty().isSound(), true);
        Check.due("a filled one is sound", Archives.filled().isSound(), true);
        Diarycold x = Archives.full();
        Check.due("a full one is sound", x.isSound(), true);
        for (int book = 0; book < 8; book++) {
            x.withdraw(book, true);
        }
        Check.due("with all books withdrawn", x.isSound(), true);
    }

    /** Of a new object there are only the counts of desk and towns. */
    private static void checksumOfNew() {
        long d = 58270;
        for (int i = 0; i < 13; i++) {
            d = d * 31;
        }
        int[] town = {0, 0, 0, 0, 0, 0, 0, 0, 0, -1, -1, -999, 0, 0, -1, -1, -1, -1};
        for (int i = 0; i < 4; i++) {
            for (int v : town) {
                d = d * 31 + v;
            }
        }
        d = d * 31 + 1;
        Check.due("digest of a new object", new Diarycold().digest(), d);
    }

    /** Each part is asked of an archive made anew, as one archive is used for 512 calls alone. */
    private static void checksum(Supplier<Diarycold> maker) {
        Diarycold x = maker.get();
        long d = 58270;
        for (int what = 0; what <= 12; what++) {
            d = d * 31 + x.desk(what);
        }
        for (int book = 0; book < maker.get().desk(0); book++) {
            for (int what = 0; what <= 7; what++) {
                d = d * 31 + x.ofBook(book, what);
            }
            d = d * 31 + x.without(book);
        }
        for (int line = 0; line < maker.get().desk(2); line++) {
            d = withLine(d, maker.get(), line);
        }
        for (int town = 0; town < 4; town++) {
            d = withTown(d, maker.get(), town);
        }
        d = d * 31 + (x.isSound() ? 1 : 0);
        Check.due("digest", maker.get().digest(), d);
        Check.due("digest of the archive that was asked", x.digest(), d);
        Check.due("digest again", x.digest(), d);
        x.call();
        Check.due("another digest", x.digest() == d, false);
    }

    private static long withLine(long start, Diarycold x, int line) {
        long d = start;
        for (int what = 0; what <= 5; what++) {
            d = d * 31 + x.ofLine(line, what);
        }
        for (int nth = 0; nth <= 2; nth++) {
            d = d * 31 + x.can(line, nth);
        }
        for (int what = 0; what <= 3 && x.can(line, 0) != -1; what++) {
            int town = x.ofBook(x.ofLine(line, 0), 0);
            d = d * 31 + x.degree(town, x.ofLine(line, 3), x.ofLine(line, 4), what);
        }
        return d;
    }

    private static long withTown(long start, Diarycold x, int town) {
        long d = start;
        for (int what = 0; what <= 8; what++) {
            d = d * 31 + x.ofTown(town, what);
        }
        for (int what = 0; what <= 2; what++) {
            d = d * 31 + x.ofBreak(town, what);
        }
        d = d * 31 + (long) (64 * x.fit(town, false));
        d = d * 31 + (long) (64 * x.returns(town, 100));
        for (int what = 0; what <= 3; what++) {
            d = d * 31 + x.drought(town, 0, what);
        }
        return d;
    }

    /** The numbers that digest() cuts are such that it can be seen. */
    private static void cutting() {
        Diarycold x = filled();
        Check.due("the slope is no whole number", x.fit(0, false) != Math.rint(x.fit(0, false)), true);
        Check.due("a steep slope", x.fit(2, false) > 250.0, true);
        double falling = 64.0 * x.fit(0, false);
        Check.due("a falling slope, not yet cut", falling < 0.0 && falling != Math.rint(falling), true);
        double returns = 64.0 * x.returns(0, 100);
        Check.due("a return, not yet cut", returns != Math.rint(returns), true);
    }
}
