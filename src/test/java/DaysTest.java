/** Promises 14 to 16 and 32: days of both calendars, Easter, and dates by the three styles. */
public final class DaysTest {
    private static Diarycold archive = new Diarycold();
    private static int calls = 0;

    public static void main(String[] args) {
        numbers(new Diarycold());
        everyDay();
        names();
        easters(new Diarycold());
        everyEaster();
        styles(new Diarycold());
        newEasters(new Diarycold());
        lastYears(new Diarycold());
        wrongInputs(new Diarycold());
        Check.end();
    }

    /** Nothing is promised of an archive behind its 512th call, so loops over all days use many. */
    private static Diarycold archive() {
        if (calls % 512 == 0) {
            archive = new Diarycold();
        }
        calls++;
        return archive;
    }

    private static void numbers(Diarycold x) {
        Check.due("old 5 October 1582", x.number(0, 1582, 10, 5), 578043);
        Check.due("new 15 October 1582", x.number(1, 1582, 10, 15), 578043);
        Check.due("first day, old", x.number(0, 1, 1, 1), 306);
        Check.due("first day, new", x.number(1, 1, 1, 1), 308);
        Check.due("old 29 February 1700", x.number(0, 1700, 2, 29), 620924);
        Check.due("new 29 February 1700", x.number(1, 1700, 2, 29), -1);
        Check.due("new 29 February 1600", x.number(1, 1600, 2, 29) > 0, true);
        Check.due("new 29 February 2000", x.number(1, 2000, 2, 29) > 0, true);
        Check.due("old 29 February 1701", x.number(0, 1701, 2, 29), -1);
        Check.due("30 February", x.number(0, 1704, 2, 30), -1);
        Check.due("31 April", x.number(1, 1704, 4, 31), -1);
        Check.due("31 June", x.number(1, 1704, 6, 31), -1);
        Check.due("31 September", x.number(0, 1704, 9, 31), -1);
        Check.due("31 November", x.number(0, 1704, 11, 31), -1);
        Check.due("last day, old", x.number(0, 2000, 12, 31), 730805);
        Check.due("last day, new", x.number(1, 2000, 12, 31), 730792);
        Check.due("31 February", x.number(0, 1704, 2, 31), -1);
        Check.due("1 February is right behind 31 January", x.number(1, 1704, 2, 1) - x.number(1, 1704, 1, 31), 1);
        Check.due("29 February of the first leap year", x.number(0, 4, 2, 29), x.number(0, 4, 3, 1) - 1);
        Check.due("new 29 February 100", x.number(1, 100, 2, 29), -1);
        Check.due("old 29 February 100", x.number(0, 100, 2, 29) > 0, true);
    }

    private static int lengthOf(int calendar, int year, int month) {
        int[] lengths = {31, 28, 31, 30, 31, 30, 31, 31, 30, 31, 30, 31};
        boolean isLeap = calendar == 0 ? year % 4 == 0 : java.time.Year.isLeap(year);
        return month == 2 && isLeap ? 29 : lengths[month - 1];
    }

    private static void everyDay() {
        for (int calendar = 0; calendar <= 1; calendar++) {
            int next = calendar == 0 ? 306 : 308;
            int wrong = 0;
            for (int year = 1; year <= 2000; year++) {
                for (int month = 1; month <= 12; month++) {
                    for (int day = 1; day <= 31; day++) {
                        boolean isDay = day <= lengthOf(calendar, year, month);
                        wrong += archive().number(calendar, year, month, day) == (isDay ? next : -1) ? 0 : 1;
                        next += isDay ? 1 : 0;
                    }
                }
            }
            Check.due("wrong days by the calendar " + calendar, wrong, 0);
        }
    }

    private static void names() {
        java.time.LocalDate day = java.time.LocalDate.of(1582, 10, 15).plusDays(400000 - 578043);
        int wrong = 0;
        for (int number = 400000; number <= 700000; number++) {
            boolean isRight = archive().named(number, 0) == day.getYear()
                    && archive().named(number, 1) == day.getMonthValue()
                    && archive().named(number, 2) == day.getDayOfMonth();
            wrong += isRight ? 0 : 1;
            day = day.plusDays(1);
        }
        Check.due("wrong names of days", wrong, 0);
    }

    /** Oudin's way to Easter, another one than the document's. */
    private static int easter(int calendar, int year) {
        int g = year % 19;
        int c = year / 100;
        int i;
        int j;
        if (calendar == 0) {
            i = (19 * g + 15) % 30;
            j = (year + year / 4 + i) % 7;
        } else {
            int h = (c - c / 4 - (8 * c + 13) / 25 + 19 * g + 15) % 30;
            i = h - h / 28 * (1 - 29 / (h + 1) * ((21 - g) / 11));
            j = (year + year / 4 + i + 2 - c + c / 4) % 7;
        }
        int month = 3 + (i - j + 40) / 44;
        return archive().number(calendar, year, month, i - j + 28 - 31 * (month / 4));
    }

    private static void easters(Diarycold x) {
        Check.due("earliest Easter", x.easter(1, 1818), x.number(1, 1818, 3, 22));
        Check.due("latest Easter", x.easter(1, 1886), x.number(1, 1886, 4, 25));
        Check.due("Easter of 1900", x.easter(1, 1900), x.number(1, 1900, 4, 15));
        Check.due("old Easter of 1582", x.easter(0, 1582), x.number(0, 1582, 4, 15));
        Check.due("old Easter of 1700", x.easter(0, 1700), 620955);
        Check.due("new Easter of 1700", x.easter(1, 1700), 620955);
        Check.due("old Easter of 1701", x.easter(0, 1701), 621340);
    }

    private static void everyEaster() {
        int wrong = 0;
        for (int year = 1200; year <= 1900; year++) {
            wrong += archive().easter(0, year) == easter(0, year) ? 0 : 1;
            wrong += archive().easter(1, year) == easter(1, year) ? 0 : 1;
        }
        Check.due("wrong Easters", wrong, 0);
    }

    private static void styles(Diarycold x) {
        Check.due("a day", x.wouldBe(0, 0, 1700, 2, 29), 1);
        Check.due("no day", x.wouldBe(1, 0, 1700, 2, 29), 0);
        Check.due("24 March", x.wouldBe(0, 1, 1700, 3, 24), 1);
        Check.due("29 February of the next year", x.wouldBe(1, 1, 1703, 2, 29), 1);
        Check.due("29 February of the year itself", x.wouldBe(1, 1, 1704, 2, 29), 0);
        Check.due("31 September from 25 March on", x.wouldBe(1, 1, 1704, 9, 31), 0);
        Check.due("old 29 February 1900", x.wouldBe(0, 1, 1899, 2, 29), 1);
        Check.due("new 29 February 1900", x.wouldBe(1, 1, 1899, 2, 29), 0);
        // Easter of 1818 is on 22 March, ahead of Lady Day.
        Check.due("22 March behind an early Easter", x.wouldBe(1, 1, 1818, 3, 22), 1);
        Check.due("24 March behind an early Easter", x.wouldBe(1, 1, 1818, 3, 24), 1);
        Check.due("25 March behind an early Easter", x.wouldBe(1, 1, 1818, 3, 25), 1);
        Check.due("24 March between Easters", x.wouldBe(1, 2, 1818, 3, 24), 2);
        Check.due("twice between Easters", x.wouldBe(0, 2, 1700, 4, 10), 2);
        Check.due("once between Easters", x.wouldBe(0, 2, 1700, 4, 25), 1);
        Check.due("never between Easters", x.wouldBe(0, 2, 1701, 4, 10), 0);
        Check.due("on Easter itself", x.wouldBe(0, 2, 1700, 3, 31), 2);
        Check.due("the day before Easter", x.wouldBe(0, 2, 1700, 3, 30), 1);
        Check.due("on the next Easter", x.wouldBe(0, 2, 1700, 4, 20), 1);
        Check.due("the day before the next Easter", x.wouldBe(0, 2, 1700, 4, 19), 2);
        Check.due("Easter of 1899", x.wouldBe(1, 2, 1899, 4, 2), 2);
    }

    private static void newEasters(Diarycold x) {
        // Easter of 1700 is on 11 April, that of 1701 on 27 March.
        Check.due("on Easter itself", x.wouldBe(1, 2, 1700, 4, 11), 1);
        Check.due("between both Easters, in neither year", x.wouldBe(1, 2, 1700, 4, 10), 0);
        Check.due("on the next Easter", x.wouldBe(1, 2, 1700, 3, 27), 0);
        Check.due("the day before the next Easter", x.wouldBe(1, 2, 1700, 3, 26), 1);
        Check.due("at the end of the year", x.wouldBe(1, 2, 1700, 12, 31), 1);
        Check.due("at the beginning of the next year", x.wouldBe(1, 2, 1700, 1, 1), 1);
        Check.due("29 February of the next year", x.wouldBe(1, 2, 1703, 2, 29), 1);
        Check.due("29 February of the year itself", x.wouldBe(1, 2, 1704, 2, 29), 0);
        Check.due("old 29 February of 1700", x.wouldBe(0, 2, 1699, 2, 29), 1);
        Check.due("new 29 February of 1700", x.wouldBe(1, 2, 1699, 2, 29), 0);
        Check.due("31 September", x.wouldBe(1, 2, 1700, 9, 31), 0);
    }

    /** The first and the last year of a date, of which the next one is 1900. */
    private static void lastYears(Diarycold x) {
        // Easter by the new calendar is on 2 April 1899 and 15 April 1900, by the old one on 18 and 9 April.
        int[][] news = {{1, 1}, {2, 2}, {14, 2}, {15, 1}};
        for (int[] want : news) {
            Check.due("new " + want[0] + " April 1899", x.wouldBe(1, 2, 1899, 4, want[0]), want[1]);
        }
        int[][] olds = {{8, 1}, {9, 0}, {17, 0}, {18, 1}};
        for (int[] want : olds) {
            Check.due("old " + want[0] + " April 1899", x.wouldBe(0, 2, 1899, 4, want[0]), want[1]);
        }
        Check.due("first day of all", x.wouldBe(0, 0, 1200, 1, 1), 1);
        Check.due("last day of all", x.wouldBe(1, 0, 1899, 12, 31), 1);
        Check.due("31 January 1900", x.wouldBe(1, 1, 1899, 1, 31), 1);
        Check.due("new 29 February 1200", x.wouldBe(1, 0, 1200, 2, 29), 1);
        Check.due("new 29 February 1300", x.wouldBe(1, 0, 1300, 2, 29), 0);
        Check.due("old 29 February 1300", x.wouldBe(0, 0, 1300, 2, 29), 1);
    }

    private static void wrongInputs(Diarycold x) {
        int[][] numbers = {{-1, 1700, 1, 1}, {2, 1700, 1, 1}, {0, 0, 1, 1}, {0, 2001, 1, 1}, {0, 1700, 0, 1},
            {0, 1700, 13, 1}, {0, 1700, 1, 0}, {0, 1700, 1, 32}, {0, Integer.MIN_VALUE, 1, 1},
            {Integer.MAX_VALUE, 1700, 1, 1}};
        for (int[] a : numbers) {
            Check.due("number " + java.util.Arrays.toString(a), () -> x.number(a[0], a[1], a[2], a[3]),
                    Check.ARGUMENT);
        }
        int[][] names = {{399999, 0}, {700001, 0}, {500000, -1}, {500000, 3}, {Integer.MIN_VALUE, 0}};
        for (int[] a : names) {
            Check.due("named " + java.util.Arrays.toString(a), () -> x.named(a[0], a[1]), Check.ARGUMENT);
        }
        int[][] easters = {{-1, 1700}, {2, 1700}, {0, 1199}, {1, 1901}};
        for (int[] a : easters) {
            Check.due("easter " + java.util.Arrays.toString(a), () -> x.easter(a[0], a[1]), Check.ARGUMENT);
        }
        int[][] dates = {{-1, 0, 1700, 1, 1}, {2, 0, 1700, 1, 1}, {0, -1, 1700, 1, 1}, {0, 3, 1700, 1, 1},
            {0, 0, 1199, 1, 1}, {0, 0, 1900, 1, 1}, {0, 0, 1700, 0, 1}, {0, 0, 1700, 13, 1}, {0, 0, 1700, 1, 0},
            {0, 0, 1700, 1, 32}};
        for (int[] a : dates) {
            Check.due("wouldBe " + java.util.Arrays.toString(a),
                    () -> x.wouldBe(a[0], a[1], a[2], a[3], a[4]), Check.ARGUMENT);
        }
    }
}
