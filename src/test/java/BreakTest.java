/** Promises 10 and 25: breaks in rows of readings, and mending them. */
public final class BreakTest {
    public static void main(String[] args) {
        found();
        gainAtTheEdge();
        gainJustBelowTheEdge();
        firstOfSeveral();
        greaterByAFraction();
        several();
        offs();
        divisions();
        weights();
        wholeRow();
        mended();
        held();
        heldAtTheEdge();
        greatest();
        Check.end();
    }

    private static void readings(Diarycold x, int town, int year, int... tenths) {
        for (int i = 0; i < tenths.length; i++) {
            x.reading(town, year + i, tenths[i]);
        }
    }

    private static void breaks(Diarycold x, String when, int town, int year, int k, int shift) {
        Check.due("year of the break " + when, x.ofBreak(town, 0), year);
        Check.due("k of the break " + when, x.ofBreak(town, 1), k);
        Check.due("shift at the break " + when, x.ofBreak(town, 2), shift);
    }

    private static void found() {
        Diarycold x = new Diarycold();
        breaks(x, "without readings", 0, -1, -1, -999);
        readings(x, 0, 1700, 0, 0, 0, 0, 0);
        breaks(x, "without another town", 0, -1, -1, -999);
        readings(x, 1, 1700, 0, 0, 100);
        breaks(x, "of three years", 1, -1, -1, -999);
        readings(x, 1, 1703, 100);
        breaks(x, "of four years", 1, 1702, 2, 100);
        breaks(x, "of the other town", 0, 1702, 2, -100);
        x.reading(1, 1710, 400);
        breaks(x, "with a year alone", 1, 1702, 2, 100);
        x.reading(2, 1702, 100);
        // Of town 1: 0, 0, 50, 100.
        breaks(x, "with a third town", 1, 1702, 2, 75);
        breaks(x, "of a town with one year", 2, -1, -1, -999);
    }

    private static void gainAtTheEdge() {
        Diarycold x = new Diarycold();
        readings(x, 0, 1700, 0, 0, 0, 0);
        readings(x, 1, 1700, 0, 0, 40, 40);
        // (0 * 2 - 80 * 2)^2 / 4 is 6400; the edge is 1600.
        breaks(x, "above the edge", 1, 1702, 2, 40);
        readings(x, 1, 1700, 0, 0, 20, 20);
        breaks(x, "at the edge", 1, 1702, 2, 20);
        readings(x, 1, 1700, 0, 0, 20, 19);
        breaks(x, "below the edge", 1, -1, -1, -999);
        Check.refuses(x, "mend(1) below the edge", () -> x.mend(1), Check.STATE);
        Check.refuses(x, "mend(3) without readings", () -> x.mend(3), Check.STATE);
    }

    private static void firstOfSeveral() {
        Diarycold x = new Diarycold();
        readings(x, 0, 1700, 0, 0, 0, 0, 0, 0);
        readings(x, 1, 1700, 0, 0, 100, 100, 0, 0);
        // Behind 2 and behind 4 the gain is the same.
        breaks(x, "twice as great", 1, 1702, 2, 50);
    }

    private static void gainJustBelowTheEdge() {
        Diarycold x = new Diarycold();
        readings(x, 0, 1700, 0, 0, 0, 0, 0, 0, 0, 0, 0);
        readings(x, 1, 1700, 0, 0, 0, 0, -13, -13, -13, -14, -14);
        // (0 * 5 + 67 * 4)^2 / 20 is 3591.2; the edge is 3600.
        breaks(x, "just below the edge of nine years", 1, -1, -1, -999);
        x.reading(1, 1708, -15);
        // (0 * 5 + 68 * 4)^2 / 20 is 3699.2.
        breaks(x, "just above it", 1, 1704, 4, -13);
    }

    private static void greaterByAFraction() {
        Diarycold x = new Diarycold();
        readings(x, 0, 1700, 0, 0, 0, 0, 0);
        readings(x, 1, 1700, 0, 20, 80, -21, 50);
        // Behind 1 the gain is 4160 1/4, behind 2 it is 4160 2/3.
        breaks(x, "greater by a fraction", 1, 1702, 2, 26);
    }

    private static void several() {
        Diarycold x = new Diarycold();
        readings(x, 0, 1700, 10, 11, 12, 13, 14);
        readings(x, 1, 1700, -10, -14, 0, 0, 0);
        readings(x, 2, 1700, -5, 200, 200, 210, 220);
        // Of town 2: -5 - 0, 200 - -1 (-3 / 2), 200 - 6, 210 - 6 (13 / 2), 220 - 7.
        breaks(x, "by means of two towns", 2, 1701, 1, 208);
    }

    /** The off of the first year alone, as READINGS of one, two and three other towns make it. */
    private static void offs() {
        // A sum, the half of it and the third of it, rounded toward 0.
        int[][] told = {{0, 0, 0}, {1, 0, 0}, {-1, 0, 0}, {2, 1, 0}, {-2, -1, 0}, {5, 2, 1}, {-5, -2, -1}, {7, 3, 2},
            {-7, -3, -2}};
        for (int[] row : told) {
            Diarycold x = new Diarycold();
            for (int town = 0; town < 4; town++) {
                readings(x, town, 1701, 0, 0, 0);
            }
            x.reading(2, 1700, 300);
            x.reading(0, 1700, row[0]);
            breaks(x, "with " + row[0] + " of one town", 2, 1701, 1, row[0] - 300);
            x.reading(1, 1700, 0);
            breaks(x, "with " + row[0] + " / 2", 2, 1701, 1, row[1] - 300);
            x.reading(1, 1700, 100);
            x.reading(3, 1700, -100);
            breaks(x, "with " + row[0] + " / 3", 2, 1701, 1, row[2] - 300);
        }
    }

    private static void divisions() {
        Diarycold x = new Diarycold();
        readings(x, 0, 1700, 0, 0, 0, 0, 0);
        readings(x, 1, 1700, -5, 2, 90, 95, 96);
        // -3 / 2 is -1, 281 / 3 is 93; in one division it would be 95.
        breaks(x, "each part rounded by itself", 1, 1702, 2, 94);
        readings(x, 1, 1700, 5, -2, -90, -95, -96);
        breaks(x, "each part rounded toward 0", 1, 1702, 2, -94);
    }

    private static void weights() {
        Diarycold x = new Diarycold();
        readings(x, 0, 1700, 0, 0, 0, 0);
        readings(x, 1, 1700, 92, 36, 0, 0);
        // 240^2 / 3 is 19200, 256^2 / 4 is 16384.
        breaks(x, "behind one year", 1, 1701, 1, -80);
    }

    private static void wholeRow() {
        Diarycold x = new Diarycold();
        for (int year = 1700; year <= 1799; year++) {
            x.reading(0, year, 0);
            x.reading(1, year, year < 1799 ? 0 : 21);
        }
        breaks(x, "ahead of the last year", 1, 1799, 99, 21);
        x.reading(1, 1799, 20);
        breaks(x, "with a gain of 39600", 1, -1, -1, -999);
    }

    private static void mended() {
        Diarycold x = new Diarycold();
        readings(x, 0, 1700, 100, 110, 90, 100);
        readings(x, 1, 1700, 100, 108, 150, 160);
        Diarycold late = new Diarycold();
        readings(late, 0, 1710, 100, 110, 90, 100);
        readings(late, 1, 1710, 100, 108, 150, 160);
        late.reading(1, 1700, 7);
        late.reading(1, 1799, 7);
        Check.due("mend", x.mend(1), 61);
        int[] want = {161, 169, 150, 160};
        for (int i = 0; i < want.length; i++) {
            Check.due("mended " + i, x.ofYear(1, 1700 + i, 2), want[i]);
        }
        breaks(x, "mended", 1, -1, -1, -999);
        Check.due("other towns stay", x.ofYear(0, 1700, 2), 100);
        Check.due("mend", late.mend(1), 61);
        Check.due("also a year alone", late.ofYear(1, 1700, 2), 68);
        Check.due("not a later one", late.ofYear(1, 1799, 2), 7);
        Check.due("nor a year without", late.ofYear(1, 1701, 2), -999);
        Check.due("readings", late.ofTown(1, 2), 6);
    }

    /** What is 900 or -900 is not held, what would be one more or less is. */
    private static void heldAtTheEdge() {
        Diarycold x = new Diarycold();
        readings(x, 0, 1703, 0, 0, 0, 0);
        readings(x, 1, 1703, -251, -251, 250, 250);
        readings(x, 1, 1700, 400, 399, 398);
        Check.due("mend by 501", x.mend(1), 501);
        Check.due("901", x.ofYear(1, 1700, 2), 900);
        Check.due("900", x.ofYear(1, 1701, 2), 900);
        Check.due("899", x.ofYear(1, 1702, 2), 899);
        Diarycold down = new Diarycold();
        readings(down, 0, 1703, 0, 0, 0, 0);
        readings(down, 1, 1703, 301, 301, -300, -300);
        readings(down, 1, 1700, -300, -299, -298);
        Check.due("mend by -601", down.mend(1), -601);
        Check.due("-901", down.ofYear(1, 1700, 2), -900);
        Check.due("-900", down.ofYear(1, 1701, 2), -900);
        Check.due("-899", down.ofYear(1, 1702, 2), -899);
        Check.due("readings", down.ofTown(1, 2), 7);
    }

    /** All years, as far apart as they can be told: gains of 49 * 10^8. */
    private static void greatest() {
        Diarycold x = new Diarycold();
        for (int year = 1700; year <= 1799; year++) {
            x.reading(0, year, year < 1750 ? 400 : -300);
            x.reading(1, year, year < 1750 ? -300 : 400);
        }
        breaks(x, "in the middle of all years", 1, 1750, 50, 1400);
        breaks(x, "of the other town", 0, 1750, 50, -1400);
        x.reading(0, 1749, -300);
        x.reading(1, 1749, 400);
        breaks(x, "a year earlier", 1, 1749, 49, 1400);
        x.reading(1, 1749, -300);
        // Behind 49 and behind 50 the gains are 4802470784.3 and 4802490000.
        breaks(x, "with a year between both", 1, 1750, 50, 1386);
    }

    private static void held() {
        Diarycold x = new Diarycold();
        readings(x, 0, 1700, 400, 400, 400, 400);
        readings(x, 1, 1700, -300, -300, 400, 400);
        Check.due("mend up", x.mend(1), 700);
        Check.due("mended up", x.ofYear(1, 1700, 2), 400);
        Diarycold up = new Diarycold();
        readings(up, 0, 1701, 400, 400, -300, -300);
        readings(up, 1, 1701, -300, -300, 400, 400);
        up.reading(1, 1700, 400);
        Check.due("mend far up", up.mend(1), 1400);
        Check.due("held at 900", up.ofYear(1, 1700, 2), 900);
        Check.due("held at 900, too", up.ofYear(1, 1701, 2), 900);
        Diarycold down = new Diarycold();
        readings(down, 0, 1701, -300, -300, 400, 400);
        readings(down, 1, 1701, 400, 400, -300, -300);
        down.reading(1, 1700, -300);
        Check.due("mend far down", down.mend(1), -1400);
        Check.due("held at -900", down.ofYear(1, 1700, 2), -900);
        Check.due("held at -900, too", down.ofYear(1, 1701, 2), -900);
        Check.due("mend anew", down.mend(1) != 0, true);
    }
}
