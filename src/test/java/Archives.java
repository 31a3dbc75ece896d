/** Archives to ask and to tell: an empty one, one with some of everything, and one that is full. */
final class Archives {
    /** No archive made here has had more calls than that. */
    static final int CALLS = 112;

    private Archives() {
    }

    static Diarycold empty() {
        return new Diarycold();
    }

    /** 3 books, 6 lines; each town has a fit, a break and a drought. */
    static Diarycold filled() {
        Diarycold x = new Diarycold();
        x.book(0, 1700, 1710, -1);
        x.book(0, 1690, 1720, 0);
        x.book(3, 1700, 1899, -1);
        x.withdraw(2, true);
        x.meaning(0, 1700, -2);
        x.meaning(1, 1600, 3);
        x.meaning(1, 1800, 1);
        x.line(0, 1, 0, 1705, 1, 1, 0);
        x.line(1, 1, 0, 1705, 1, 2, 1);
        x.line(1, 0, 2, 1711, 4, 5, 1);
        x.line(1, 1, 0, 1711, 2, 29, 1);
        x.line(1, 1, 0, 1706, 5, 31, 1);
        x.line(2, 1, 0, 1800, 7, 7, 1);
        measure(x);
        x.law(0, 1702, 1704, 5);
        x.law(3, 1700, 1799, 30);
        x.leaveOut(0, 1701, true);
        x.prayer(0, 1712, 12, 5);
        x.prayer(0, 1713, 1, 3);
        x.prayer(1, 1700, 1, 1);
        x.prayer(2, 1799, 12, 4);
        x.prayer(3, 1750, 6, 2);
        x.mark(0, 1703, 120);
        x.mark(0, 1803, 100);
        x.mark(3, 1200, 999);
        x.call();
        return x;
    }

    /** Harvests and readings of all towns, with readings that leap between 1702 and 1797. */
    private static void measure(Diarycold x) {
        int[] years = {1700, 1701, 1702, 1797, 1798, 1799};
        int[] leaps = {200, 40, -100, 300};
        for (int town = 0; town < 4; town++) {
            for (int i = 0; i < years.length; i++) {
                x.harvest(town, years[i], 200 + 7 * i + i * i * town);
                x.reading(town, years[i], 10 * town + i % 2 + (i < 3 ? 0 : leaps[town]));
            }
        }
    }

    /** 8 books, 16 meanings, 40 lines, 8 laws and 20 marks; each town has a break. */
    static Diarycold full() {
        Diarycold x = new Diarycold();
        for (int i = 0; i < 8; i++) {
            x.book((i + 1) % 4, 1700, 1899, i < 4 ? -1 : i - 4);
            x.law(i % 4, 1700 + i, 1799, i);
        }
        for (int i = 0; i < 16; i++) {
            x.meaning(i % 8, 1700 + i, i % 7 - 3);
        }
        for (int i = 0; i < 20; i++) {
            x.mark(i % 4, 1200 + 30 * i, 1 + 50 * i);
        }
        for (int i = 0; i < 40; i++) {
            x.line(i % 8, 1, 0, 1750, 1 + i % 3, 1 + i % 28, i % 7);
        }
        int[] leaps = {200, 40, -100, 300};
        for (int town = 0; town < 4; town++) {
            for (int i = 0; i < 4; i++) {
                x.reading(town, 1798 - i, i < 2 ? leaps[town] : 0);
            }
        }
        return x;
    }
}
