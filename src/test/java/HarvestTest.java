/** Promises 6 to 9, 22 to 24 and 33: harvests, laws, readings, and the fit through them. */
public final class HarvestTest {
    public static void main(String[] args) {
        harvestsAndReadings();
        laws();
        lawsTogether();
        fits();
        leavingOut();
        tests();
        edges();
        testsWithoutFit();
        limits();
        Check.end();
    }

    private static void harvestsAndReadings() {
        Diarycold x = new Diarycold();
        Check.due("no harvest", x.ofYear(0, 1700, 0), -1);
        Check.due("nothing ripe", x.ofYear(0, 1700, 1), -1);
        Check.due("no reading", x.ofYear(0, 1700, 2), -999);
        Check.due("harvest", x.harvest(0, 1700, 150), 1);
        Check.due("harvest of the last year", x.harvest(0, 1799, 330), 2);
        Check.due("harvest told anew", x.harvest(0, 1700, 151), 2);
        Check.due("of another town", x.harvest(3, 1700, 200), 1);
        Check.due("as told last", x.ofYear(0, 1700, 0), 151);
        Check.due("of the last year", x.ofYear(0, 1799, 0), 330);
        Check.due("reading", x.reading(0, 1700, -300), 1);
        Check.due("reading of the last year", x.reading(0, 1799, 400), 2);
        Check.due("reading told anew", x.reading(0, 1799, 0), 2);
        Check.due("of another town", x.reading(1, 1799, 1), 1);
        Check.due("as told last", x.ofYear(0, 1799, 2), 0);
        Check.due("least reading", x.ofYear(0, 1700, 2), -300);
        Check.due("harvests", x.ofTown(0, 1), 2);
        Check.due("readings", x.ofTown(0, 2), 2);
        Check.due("years of its fit", x.ofTown(0, 3), 2);
        Check.due("in its fit", x.ofYear(0, 1700, 4), 1);
        Check.due("a harvest alone", x.ofYear(3, 1700, 4), 0);
        Check.due("a reading alone", x.ofYear(1, 1799, 4), 0);
    }

    private static void laws() {
        Diarycold x = new Diarycold();
        x.harvest(0, 1710, 200);
        x.harvest(1, 1710, 200);
        Check.due("law", x.law(0, 1700, 1710, 10), 1);
        Check.due("law of another town", x.law(1, 1710, 1799, 30), 2);
        Check.due("law of the same years", x.law(0, 1710, 1710, 7), 3);
        Check.due("both laws", x.ofYear(0, 1710, 3), 17);
        Check.due("one law", x.ofYear(0, 1709, 3), 10);
        Check.due("from the first year on", x.ofYear(0, 1700, 3), 10);
        Check.due("no law", x.ofYear(0, 1711, 3), 0);
        Check.due("till the last year", x.ofYear(1, 1799, 3), 30);
        Check.due("not before", x.ofYear(1, 1709, 3), 0);
        Check.due("ripe", x.ofYear(0, 1710, 1), 183);
        Check.due("ripe there", x.ofYear(1, 1710, 1), 170);
        Check.due("the harvest itself", x.ofYear(0, 1710, 0), 200);
        Check.due("ripe without a harvest", x.ofYear(0, 1709, 1), -1);
        Check.due("laws of a town", x.ofTown(0, 7), 2);
        Check.due("laws", x.desk(10), 3);
    }

    /** Laws that lie over one another in part, told in either order. */
    private static void lawsTogether() {
        int[][] laws = {{1700, 1710, 10}, {1705, 1720, 7}, {1708, 1708, 2}};
        int[][] want = {{1700, 10}, {1704, 10}, {1705, 17}, {1707, 17}, {1708, 19}, {1709, 17}, {1710, 17}, {1711, 7},
            {1720, 7}, {1721, 0}};
        for (int first = 0; first < laws.length; first++) {
            Diarycold x = new Diarycold();
            for (int i = 0; i < laws.length; i++) {
                int[] law = laws[(first + i) % laws.length];
                x.law(2, law[0], law[1], law[2]);
            }
            for (int[] row : want) {
                Check.due("laws of " + row[0] + " from law " + first + " on", x.ofYear(2, row[0], 3), row[1]);
            }
        }
    }

    private static void fits() {
        Diarycold x = new Diarycold();
        Check.due("no slope", x.fit(0, false), 0.0);
        Check.due("no start", x.fit(0, true), 0.0);
        x.harvest(0, 1700, 250);
        x.harvest(0, 1701, 260);
        x.reading(0, 1700, 110);
        x.reading(0, 1701, 100);
        Check.due("two years are no fit", x.fit(0, true), 0.0);
        Check.due("nor tell heat", x.heat(0, 1700), -999.0);
        x.harvest(0, 1702, 270);
        x.reading(0, 1702, 90);
        Check.due("slope", x.fit(0, false), -1.0);
        Check.due("start", x.fit(0, true), 360.0);
        x.harvest(0, 1703, 275);
        Check.due("heat of a year without a reading", x.heat(0, 1703), 85.0);
        Check.due("heat without a harvest", x.heat(0, 1704), -999.0);
        x.law(0, 1701, 1703, 10);
        x.harvest(0, 1703, 265);
        x.reading(0, 1703, 95);
        double slope = (double) (4 * 100125L - 1015L * 395) / (double) (4 * 257625L - 1015L * 1015);
        Check.due("slope of ripe", x.fit(0, false), slope);
        Check.due("start of ripe", x.fit(0, true), (395.0 - slope * 1015.0) / 4.0);
        Check.due("heat of ripe", x.heat(0, 1703), (395.0 - slope * 1015.0) / 4.0 + slope * 255.0);
        Diarycold edges = new Diarycold();
        int[][] points = {{1700, 200, 10}, {1750, 210, 20}, {1799, 220, 30}};
        for (int[] point : points) {
            edges.harvest(3, point[0], point[1]);
            edges.reading(3, point[0], point[2]);
        }
        Check.due("through the first and the last year", edges.fit(3, true), -190.0);
        Diarycold alike = new Diarycold();
        for (int year = 1700; year < 1704; year++) {
            alike.harvest(2, year, 250);
            alike.reading(2, year, year - 1690);
        }
        Check.due("all alike: slope", alike.fit(2, false), 0.0);
        Check.due("all alike: start", alike.fit(2, true), 0.0);
        Check.due("all alike: heat", alike.heat(2, 1700), -999.0);
        Check.due("all alike: years", alike.ofTown(2, 3), 4);
        alike.law(2, 1700, 1700, 1);
        Check.due("not alike by a law", alike.fit(2, false), 2.0);
    }

    private static void leavingOut() {
        Diarycold x = new Diarycold();
        Check.due("a year without any", x.leaveOut(1, 1700, true), 0);
        x.harvest(1, 1700, 200);
        x.reading(1, 1700, 100);
        Check.due("left out before it was told", x.ofYear(1, 1700, 4), 0);
        Check.due("taken back", x.leaveOut(1, 1700, false), 1);
        Check.due("in its fit", x.ofYear(1, 1700, 4), 1);
        for (int year = 1701; year <= 1703; year++) {
            x.harvest(1, year, 200 + year - 1700);
            x.reading(1, year, 100);
        }
        x.reading(1, 1703, 400);
        Check.due("left out", x.leaveOut(1, 1703, true), 3);
        Check.due("left out again", x.leaveOut(1, 1703, true), 3);
        Check.due("slope without it", x.fit(1, false), 0.0);
        Check.due("start without it", x.fit(1, true), 100.0);
        Check.due("heat of a year left out", x.heat(1, 1703), 100.0);
        Check.due("another town's year", x.leaveOut(0, 1702, true), 0);
        Check.due("years", x.ofTown(1, 3), 3);
        x.leaveOut(1, 1702, true);
        Check.due("too few then", x.heat(1, 1700), -999.0);
    }

    private static void tests() {
        Diarycold x = new Diarycold();
        int[][] told = {{250, 110}, {260, 100}, {270, 90}, {280, 85}};
        for (int i = 0; i < told.length; i++) {
            x.harvest(0, 1700 + i, told[i][0]);
            x.reading(0, 1700 + i, told[i][1]);
        }
        long before = x.digest();
        Check.due("without the last one", x.test(0, 1703), -5.0);
        Check.due("nothing is changed", x.digest(), before);
        x.leaveOut(0, 1703, true);
        Check.due("of a year left out", x.test(0, 1703), -5.0);
        Check.due("too few then", x.test(0, 1700), -999.0);
        Check.due("neither harvest nor reading", x.test(0, 1710), -999.0);
        x.harvest(0, 1710, 255);
        Check.due("without a reading", x.test(0, 1710), -999.0);
        x.reading(0, 1711, 100);
        Check.due("without a harvest", x.test(0, 1711), -999.0);
        x.law(0, 1703, 1703, 30);
        Check.due("by what was ripe", x.test(0, 1703), 25.0);
    }

    private static void edges() {
        Diarycold x = new Diarycold();
        x.harvest(3, 1799, 330);
        x.harvest(3, 1700, 150);
        x.reading(3, 1799, 400);
        x.reading(3, 1700, -300);
        x.law(3, 1700, 1700, 0);
        x.law(3, 1799, 1799, 30);
        int[][] want = {{1700, 150, 150, -300, 0, 1}, {1799, 330, 300, 400, 30, 1}, {1701, -1, -1, -999, 0, 0},
            {1798, -1, -1, -999, 0, 0}};
        for (int[] row : want) {
            for (int what = 0; what <= 4; what++) {
                Check.due("ofYear(3, " + row[0] + ", " + what + ")", x.ofYear(3, row[0], what), row[what + 1]);
            }
        }
        Check.due("the first year left out", x.leaveOut(3, 1700, true), 1);
        Check.due("the last year left out", x.leaveOut(3, 1799, true), 0);
        Check.due("the last year taken back", x.leaveOut(3, 1799, false), 1);
        Check.due("harvests of another town", x.ofTown(0, 1), 0);
        Check.due("laws of a town without harvests", x.law(0, 1700, 1799, 30), 3);
        Check.due("days without a harvest", x.ofYear(0, 1750, 3), 30);
    }

    /** Three years are a fit, so there is none without one of them, nor if all others are alike. */
    private static void testsWithoutFit() {
        Diarycold x = new Diarycold();
        int[][] told = {{250, 110}, {250, 100}, {270, 90}};
        for (int i = 0; i < told.length; i++) {
            x.harvest(0, 1700 + i, told[i][0]);
            x.reading(0, 1700 + i, told[i][1]);
        }
        Check.due("a fit of three", x.heat(0, 1702), 90.0);
        Check.due("two others", x.test(0, 1702), -999.0);
        x.harvest(0, 1703, 250);
        x.reading(0, 1703, 120);
        Check.due("three others, all alike", x.test(0, 1702), -999.0);
        Check.due("three others", x.test(0, 1703), -15.0);
        Check.due("a year that is not there", x.test(0, 1799), -999.0);
    }

    private static void limits() {
        Diarycold x = new Diarycold();
        for (int i = 0; i < 8; i++) {
            Check.due("law " + i, x.law(i % 4, 1700, 1799, 30), i + 1);
        }
        Check.refuses(x, "a ninth law", () -> x.law(0, 1700, 1799, 0), Check.STATE);
        Check.due("not made", x.ofTown(0, 7), 2);
        Diarycold one = new Diarycold();
        for (int i = 0; i < 8; i++) {
            one.law(0, 1700, 1799, 30);
        }
        one.harvest(0, 1750, 150);
        Check.due("all laws", one.ofYear(0, 1799, 3), 240);
        Check.due("ripe before the year", one.ofYear(0, 1750, 1), -90);
    }
}
