/** Promises 11, 12, 26 and 27: prayers and droughts, marks and returns. */
public final class PrayersTest {
    public static void main(String[] args) {
        prayers();
        droughts();
        turnsOfYears();
        rungsAndCosts();
        manyMonths();
        everyOther();
        marks();
        limits();
        Check.end();
    }

    private static void prayers() {
        Diarycold x = new Diarycold();
        Check.due("prayer", x.prayer(0, 1700, 1, 2), 2);
        Check.due("a lesser one", x.prayer(0, 1700, 1, 1), 2);
        Check.due("a greater one", x.prayer(0, 1700, 1, 5), 5);
        Check.due("of another town", x.prayer(1, 1700, 1, 1), 1);
        Check.due("of the last month", x.prayer(0, 1799, 12, 4), 4);
    }

    private static void drought(Diarycold x, int nth, int... want) {
        for (int what = 0; what <= 3; what++) {
            Check.due("drought(2, " + nth + ", " + what + ")", x.drought(2, nth, what), want[what]);
        }
    }

    private static void droughts() {
        Diarycold x = new Diarycold();
        drought(x, 0, -1, -1, -1, -1);
        Check.due("no drought", x.ofTown(2, 4), 0);
        Check.due("the longest of none", x.ofTown(2, 5), 0);
        x.prayer(2, 1713, 3, 2);
        x.prayer(2, 1713, 1, 5);
        x.prayer(2, 1712, 12, 3);
        x.prayer(2, 1712, 11, 1);
        drought(x, 0, 1712 * 12 + 10, 3, 21, 5);
        drought(x, 1, 1713 * 12 + 2, 1, 2, 2);
        drought(x, 2, -1, -1, -1, -1);
        Check.due("droughts", x.ofTown(2, 4), 2);
        Check.due("the longest", x.ofTown(2, 5), 3);
        x.prayer(2, 1713, 2, 4);
        drought(x, 0, 1712 * 12 + 10, 5, 31, 5);
        Check.due("one drought", x.ofTown(2, 4), 1);
        x.prayer(2, 1799, 12, 1);
        x.prayer(2, 1700, 1, 4);
        drought(x, 0, 1700 * 12, 1, 8, 4);
        drought(x, 2, 1799 * 12 + 11, 1, 1, 1);
        Check.due("none of another town", x.ofTown(1, 4), 0);
        x.prayer(0, 1799, 12, 1);
        Check.due("a drought of the last month", x.ofTown(0, 4), 1);
        Check.due("its months", x.ofTown(0, 5), 1);
        x.prayer(3, 1700, 1, 1);
        Check.due("a drought of the first month", x.ofTown(3, 4), 1);
        Check.due("its months", x.ofTown(3, 5), 1);
        Check.due("sound", x.isSound(), true);
    }

    /** As many as there can be in 512 calls, till the last month of all. */
    private static void manyMonths() {
        Diarycold x = new Diarycold();
        for (int month = 1199; month >= 700; month--) {
            x.prayer(2, 1700 + month / 12, month % 12 + 1, 5);
        }
        drought(x, 0, 1700 * 12 + 700, 500, 8000, 5);
        drought(x, 1, -1, -1, -1, -1);
        Check.due("one drought", x.ofTown(2, 4), 1);
        Check.due("the longest", x.ofTown(2, 5), 500);
        Check.due("sound", x.isSound(), true);
    }

    private static void everyOther() {
        Diarycold x = new Diarycold();
        for (int month = 0; month < 1000; month += 2) {
            x.prayer(2, 1700 + month / 12, month % 12 + 1, 1);
        }
        Check.due("droughts", x.ofTown(2, 4), 500);
        drought(x, 499, 1700 * 12 + 998, 1, 1, 1);
        Check.due("no 501st", x.drought(2, 500, 0), -1);
        Check.due("no 600th", x.drought(2, 599, 3), -1);
        Check.due("sound", x.isSound(), true);
    }

    /** December and January follow one another, but not those of one and the same year. */
    private static void turnsOfYears() {
        Diarycold x = new Diarycold();
        x.prayer(2, 1712, 1, 1);
        x.prayer(2, 1712, 12, 2);
        Check.due("apart", x.ofTown(2, 4), 2);
        x.prayer(2, 1713, 1, 3);
        drought(x, 0, 1712 * 12, 1, 1, 1);
        drought(x, 1, 1712 * 12 + 11, 2, 6, 3);
        x.prayer(2, 1799, 12, 1);
        x.prayer(2, 1700, 1, 1);
        drought(x, 0, 1700 * 12, 1, 1, 1);
        drought(x, 3, 1799 * 12 + 11, 1, 1, 1);
        Check.due("the last month and the first one are apart", x.ofTown(2, 4), 4);
        Check.due("the longest", x.ofTown(2, 5), 2);
    }

    private static void rungsAndCosts() {
        int[] costs = {1, 2, 4, 8, 16};
        Diarycold x = new Diarycold();
        for (int rung = 1; rung <= 5; rung++) {
            Check.due("rung " + rung, x.prayer(2, 1700 + rung, 1, rung), rung);
            drought(x, rung - 1, (1700 + rung) * 12, 1, costs[rung - 1], rung);
        }
        Check.due("the same rung again", x.prayer(2, 1705, 1, 5), 5);
        Check.due("the least one behind the greatest", x.prayer(2, 1705, 1, 1), 5);
        drought(x, 4, 1705 * 12, 1, 16, 5);
    }

    private static void marks() {
        Diarycold x = new Diarycold();
        Check.due("no mark", x.returns(0, 1), 0.0);
        Check.due("mark 1", x.mark(0, 1800, 100), 1);
        Check.due("mark of another town", x.mark(1, 1200, 999), 2);
        Check.due("as high", x.returns(0, 100), 100.0);
        Check.due("not so high", x.returns(0, 101), 0.0);
        Check.due("mark 3", x.mark(0, 1850, 200), 3);
        Check.due("one so high, from the earliest on", x.returns(0, 101), 100.0);
        Check.due("two so high", x.returns(0, 99), 50.0);
        Check.due("mark 4", x.mark(0, 1899, 99), 4);
        Check.due("not a whole number", x.returns(0, 1), 100.0 / 3);
        Check.due("all years", x.returns(1, 999), 700.0);
        x.mark(2, 1899, 1);
        Check.due("the last year", x.returns(2, 1), 1.0);
        Check.due("marks of a town", x.ofTown(0, 6), 3);
        Check.due("marks", x.desk(11), 5);
    }

    private static void limits() {
        Diarycold x = new Diarycold();
        for (int i = 0; i < 20; i++) {
            Check.due("mark " + i, x.mark(i % 4, 1200 + i, 1 + i), i + 1);
        }
        Check.refuses(x, "a 21st mark", () -> x.mark(0, 1700, 1), Check.STATE);
    }
}
