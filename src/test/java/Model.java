import java.math.BigInteger;
import java.util.ArrayList;
import java.util.Collections;
import java.util.HashMap;
import java.util.List;
import java.util.Map;
import java.util.TreeMap;
import java.util.TreeSet;
import java.util.stream.Collectors;

/**
 * The document once more, written for plainness alone and in other ways than the program: days by
 * counting them, degrees by listing, gains as fractions of big numbers, nothing kept that can be asked.
 */
final class Model {
    record Book(int town, int from, int to, int copied) { }
    record Meaning(int word, int year, int degree) { }
    record Line(int book, int calendar, int style, int year, int month, int day, int word) { }
    record Law(int town, int from, int to, int days) { }
    record Mark(int town, int year, int height) { }
    record Day(int year, int month, int day) { }
    record Point(long x, long y) { }
    record Break(int year, int k, int shift) { }

    private static final List<Map<Day, Integer>> NUMBERS = List.of(new HashMap<>(), new HashMap<>());
    private static final Map<Integer, Day> NAMES = new HashMap<>();

    static {
        for (int calendar = 0; calendar <= 1; calendar++) {
            int number = calendar == 0 ? 306 : 308;
            for (int year = 1; year <= 2001; year++) {
                for (int month = 1; month <= 12; month++) {
                    boolean isLeap = calendar == 0 ? year % 4 == 0 : java.time.Year.isLeap(year);
                    for (int day = 1; day <= java.time.Month.of(month).length(isLeap); day++) {
                        NUMBERS.get(calendar).put(new Day(year, month, day), number);
                        if (calendar == 1) {
                            NAMES.put(number, new Day(year, month, day));
                        }
                        number++;
                    }
                }
            }
        }
    }

    final List<Book> books = new ArrayList<>();
    final TreeSet<Integer> withdrawn = new TreeSet<>();
    final List<Meaning> meanings = new ArrayList<>();
    final List<Line> lines = new ArrayList<>();
    final List<Law> laws = new ArrayList<>();
    final List<Mark> marks = new ArrayList<>();
    final List<TreeMap<Integer, Integer>> harvests = new ArrayList<>();
    final List<TreeMap<Integer, Integer>> readings = new ArrayList<>();
    final List<TreeMap<Integer, Integer>> rungs = new ArrayList<>();
    final List<TreeSet<Integer>> out = new ArrayList<>();
    int refused;

    Model() {
        for (int town = 0; town < 4; town++) {
            harvests.add(new TreeMap<>());
            readings.add(new TreeMap<>());
            rungs.add(new TreeMap<>());
            out.add(new TreeSet<>());
        }
    }

    private static void index(boolean isRight) {
        if (!isRight) {
            throw new IndexOutOfBoundsException();
        }
    }

    private static void argument(boolean isRight) {
        if (!isRight) {
            throw new IllegalArgumentException();
        }
    }

    private static void state(boolean isRight) {
        if (!isRight) {
            throw new IllegalStateException();
        }
    }

    private static boolean in(int value, int from, int to) {
        return value >= from && value <= to;
    }

    private static void town(int town) {
        index(in(town, 0, 3));
    }

    int book(int town, int from, int to, int copied) {
        town(town);
        index(copied == -1 || in(copied, 0, books.size() - 1));
        argument(in(from, 1200, 1899) && in(to, 1200, 1899) && to >= from);
        state(books.size() < 8);
        books.add(new Book(town, from, to, copied));
        return books.size() - 1;
    }

    boolean withdraw(int book, boolean isWithdrawn) {
        index(in(book, 0, books.size() - 1));
        return isWithdrawn ? !withdrawn.add(book) : withdrawn.remove(book);
    }

    int meaning(int word, int year, int degree) {
        argument(in(word, 0, 7) && in(year, 1200, 1899) && in(degree, -3, 3));
        state(meanings.size() < 16);
        meanings.add(new Meaning(word, year, degree));
        return meanings.size();
    }

    int line(int book, int calendar, int style, int year, int month, int day, int word) {
        index(in(book, 0, books.size() - 1));
        argument(in(calendar, 0, 1) && in(style, 0, 2) && in(year, 1200, 1899) && in(month, 1, 12)
                && in(day, 1, 31) && in(word, 0, 7));
        state(lines.size() < 40);
        lines.add(new Line(book, calendar, style, year, month, day, word));
        return lines.size() - 1;
    }

    int harvest(int town, int year, int day) {
        town(town);
        argument(in(year, 1700, 1799) && in(day, 150, 330));
        harvests.get(town).put(year, day);
        return harvests.get(town).size();
    }

    int law(int town, int from, int to, int days) {
        town(town);
        argument(in(from, 1700, 1799) && in(to, 1700, 1799) && to >= from && in(days, 0, 30));
        state(laws.size() < 8);
        laws.add(new Law(town, from, to, days));
        return laws.size();
    }

    int reading(int town, int year, int tenths) {
        town(town);
        argument(in(year, 1700, 1799) && in(tenths, -300, 400));
        readings.get(town).put(year, tenths);
        return readings.get(town).size();
    }

    int leaveOut(int town, int year, boolean isOut) {
        town(town);
        argument(in(year, 1700, 1799));
        if (isOut) {
            out.get(town).add(year);
        } else {
            out.get(town).remove(year);
        }
        return points(town, -1).size();
    }

    int mend(int town) {
        town(town);
        Break found = breakOf(town);
        state(found != null);
        readings.get(town).headMap(found.year()).replaceAll(
                (year, tenths) -> Math.max(-900, Math.min(900, tenths + found.shift())));
        return found.shift();
    }

    int prayer(int town, int year, int month, int rung) {
        town(town);
        argument(in(year, 1700, 1799) && in(month, 1, 12) && in(rung, 1, 5));
        return rungs.get(town).merge(year * 12 + month - 1, rung, Math::max);
    }

    int mark(int town, int year, int height) {
        town(town);
        argument(in(year, 1200, 1899) && in(height, 1, 999));
        state(marks.size() < 20);
        marks.add(new Mark(town, year, height));
        return marks.size();
    }

    int call() {
        return ++refused;
    }

    int number(int calendar, int year, int month, int day) {
        argument(in(calendar, 0, 1) && in(year, 1, 2000) && in(month, 1, 12) && in(day, 1, 31));
        return NUMBERS.get(calendar).getOrDefault(new Day(year, month, day), -1);
    }

    int named(int number, int what) {
        argument(in(number, 400000, 700000) && in(what, 0, 2));
        Day day = NAMES.get(number);
        return List.of(day.year(), day.month(), day.day()).get(what);
    }

    /** Oudin's way, another one than the document's. */
    int easter(int calendar, int year) {
        argument(in(calendar, 0, 1) && in(year, 1200, 1900));
        int g = year % 19;
        int c = year / 100;
        int i = (19 * g + 15) % 30;
        int j = (year + year / 4 + i) % 7;
        if (calendar == 1) {
            int h = (c - c / 4 - (8 * c + 13) / 25 + 19 * g + 15) % 30;
            i = h - h / 28 * (1 - 29 / (h + 1) * ((21 - g) / 11));
            j = (year + year / 4 + i + 2 - c + c / 4) % 7;
        }
        int month = 3 + (i - j + 40) / 44;
        return number(calendar, year, month, i - j + 28 - 31 * (month / 4));
    }

    /** All days of three years, looked through for those that the date can be. */
    private List<Integer> days(int calendar, int style, int year, int month, int day) {
        List<Integer> found = new ArrayList<>();
        for (int y = year - 1; y <= year + 2; y++) {
            Integer number = NUMBERS.get(calendar).get(new Day(y, month, day));
            if (number != null) {
                int named = switch (style) {
                    case 0 -> y;
                    case 1 -> month * 100 + day >= 325 ? y : y - 1;
                    default -> y == year && number >= easter(calendar, year)
                            || y == year + 1 && number < easter(calendar, year + 1) ? year : -1;
                };
                if (named == year) {
                    found.add(number);
                }
            }
        }
        Collections.sort(found);
        return found;
    }

    private List<Integer> days(Line line) {
        return days(line.calendar(), line.style(), line.year(), line.month(), line.day());
    }

    int can(int line, int nth) {
        index(in(line, 0, lines.size() - 1));
        argument(in(nth, 0, 2));
        List<Integer> days = days(lines.get(line));
        return nth < days.size() ? days.get(nth) : -1;
    }

    private int root(int book) {
        int copied = books.get(book).copied();
        return copied == -1 ? book : root(copied);
    }

    int ofBook(int book, int what) {
        index(in(book, 0, books.size() - 1));
        argument(in(what, 0, 7));
        Book b = books.get(book);
        long all = lines.stream().filter(line -> line.book() == book).count();
        long counting = lines.stream().filter(line -> line.book() == book && flaw(line) == 0).count();
        return List.of(b.town(), b.from(), b.to(), b.copied(), root(book), withdrawn.contains(book) ? 1 : 0,
                (int) all, (int) counting).get(what);
    }

    int means(int word, int year) {
        argument(in(word, 0, 7) && in(year, 1200, 1900));
        return meant(word, year);
    }

    private int meant(int word, int year) {
        for (int y = year; y >= 1200; y--) {
            for (int i = meanings.size() - 1; i >= 0; i--) {
                if (meanings.get(i).word() == word && meanings.get(i).year() == y) {
                    return meanings.get(i).degree();
                }
            }
        }
        return -99;
    }

    private int flaw(Line line) {
        List<Day> days = days(line).stream().map(NAMES::get).toList();
        if (withdrawn.contains(line.book())) {
            return 1;
        } else if (days.isEmpty()) {
            return 2;
        } else if (days.stream().map(day -> day.year() * 12 + day.month()).distinct().count() > 1) {
            return 3;
        } else if (days.get(0).year() > books.get(line.book()).to()) {
            return 4;
        }
        return meant(line.word(), days.get(0).year()) == -99 ? 5 : 0;
    }

    int ofLine(int line, int what) {
        index(in(line, 0, lines.size() - 1));
        argument(in(what, 0, 5));
        Line l = lines.get(line);
        List<Integer> days = days(l);
        Day first = days.isEmpty() ? new Day(-1, -1, -1) : NAMES.get(days.get(0));
        return List.of(l.book(), flaw(l), days.size(), first.year(), first.month(), meant(l.word(), first.year()))
                .get(what);
    }

    private List<Line> counting(int town, int year, int month) {
        return lines.stream().filter(line -> books.get(line.book()).town() == town && flaw(line) == 0)
                .filter(line -> {
                    Day day = NAMES.get(days(line).get(0));
                    return day.year() == year && day.month() == month;
                }).toList();
    }

    private List<Line> witnesses(int town, int year, int month) {
        List<Line> there = counting(town, year, month);
        Map<Integer, Integer> least = there.stream().collect(
                Collectors.toMap(line -> root(line.book()), Line::book, Math::min));
        return there.stream().filter(line -> least.get(root(line.book())) == line.book()).toList();
    }

    private int index(int town, int year, int month) {
        List<Line> heard = witnesses(town, year, month);
        int sum = heard.stream().mapToInt(line -> meant(line.word(), year)).sum();
        return heard.isEmpty() ? -999 : sum * 100 / heard.size();
    }

    int degree(int town, int year, int month, int what) {
        town(town);
        argument(in(year, 1200, 1900) && in(month, 1, 12) && in(what, 0, 3));
        List<Line> heard = witnesses(town, year, month);
        var degrees = heard.stream().mapToInt(line -> meant(line.word(), year)).summaryStatistics();
        return switch (what) {
            case 0 -> index(town, year, month);
            case 1 -> heard.size();
            case 2 -> heard.isEmpty() ? 0 : degrees.getMax() - degrees.getMin();
            default -> counting(town, year, month).size() - heard.size();
        };
    }

    private int delay(int town, int year) {
        return laws.stream().filter(law -> law.town() == town && in(year, law.from(), law.to()))
                .mapToInt(Law::days).sum();
    }

    private int ripe(int town, int year) {
        return harvests.get(town).get(year) - delay(town, year);
    }

    private List<Point> points(int town, int skipped) {
        List<Point> found = new ArrayList<>();
        for (int year : harvests.get(town).keySet()) {
            if (readings.get(town).containsKey(year) && !out.get(town).contains(year) && year != skipped) {
                found.add(new Point(ripe(town, year), readings.get(town).get(year)));
            }
        }
        return found;
    }

    int ofYear(int town, int year, int what) {
        town(town);
        argument(in(year, 1700, 1799) && in(what, 0, 4));
        boolean isHarvest = harvests.get(town).containsKey(year);
        boolean isReading = readings.get(town).containsKey(year);
        return switch (what) {
            case 0 -> isHarvest ? harvests.get(town).get(year) : -1;
            case 1 -> isHarvest ? ripe(town, year) : -1;
            case 2 -> isReading ? readings.get(town).get(year) : -999;
            case 3 -> delay(town, year);
            default -> isHarvest && isReading && !out.get(town).contains(year) ? 1 : 0;
        };
    }

    /** Start and slope, or null. */
    private double[] line(List<Point> points) {
        if (points.size() < 3 || points.stream().map(Point::x).distinct().count() == 1) {
            return null;
        }
        long n = points.size();
        long x = points.stream().mapToLong(Point::x).sum();
        long y = points.stream().mapToLong(Point::y).sum();
        long p = points.stream().mapToLong(point -> point.x() * point.y()).sum();
        long q = points.stream().mapToLong(point -> point.x() * point.x()).sum();
        double slope = (double) (n * p - x * y) / (double) (n * q - x * x);
        return new double[] {((double) y - slope * (double) x) / (double) n, slope};
    }

    double fit(int town, boolean isStart) {
        town(town);
        double[] line = line(points(town, -1));
        return line == null ? 0.0 : line[isStart ? 0 : 1];
    }

    double heat(int town, int year) {
        town(town);
        argument(in(year, 1700, 1799));
        double[] line = line(points(town, -1));
        return line == null || !harvests.get(town).containsKey(year) ? -999.0 : line[0] + line[1] * ripe(town, year);
    }

    double test(int town, int year) {
        town(town);
        argument(in(year, 1700, 1799));
        double[] line = line(points(town, year));
        if (line == null || !harvests.get(town).containsKey(year) || !readings.get(town).containsKey(year)) {
            return -999.0;
        }
        return line[0] + line[1] * ripe(town, year) - readings.get(town).get(year);
    }

    private Break breakOf(int town) {
        TreeMap<Integer, Integer> offs = new TreeMap<>();
        for (int year : readings.get(town).keySet()) {
            List<Integer> others = new ArrayList<>();
            for (int other = 0; other < 4; other++) {
                if (other != town && readings.get(other).containsKey(year)) {
                    others.add(readings.get(other).get(year));
                }
            }
            if (!others.isEmpty()) {
                int sum = others.stream().mapToInt(Integer::intValue).sum();
                offs.put(year, readings.get(town).get(year) - sum / others.size());
            }
        }
        List<Integer> years = List.copyOf(offs.keySet());
        int n = years.size();
        Break best = null;
        BigInteger top = null;
        BigInteger bottom = null;
        for (int k = 1; k < n; k++) {
            int a = offs.headMap(years.get(k)).values().stream().mapToInt(Integer::intValue).sum();
            int b = offs.tailMap(years.get(k)).values().stream().mapToInt(Integer::intValue).sum();
            BigInteger above = BigInteger.valueOf((long) a * (n - k) - (long) b * k).pow(2);
            BigInteger below = BigInteger.valueOf((long) k * (n - k));
            if (best == null || above.multiply(bottom).compareTo(top.multiply(below)) > 0) {
                best = new Break(years.get(k), k, b / (n - k) - a / k);
                top = above;
                bottom = below;
            }
        }
        boolean isGreat = n >= 4 && top.compareTo(bottom.multiply(BigInteger.valueOf(400L * n))) >= 0;
        return isGreat ? best : null;
    }

    int ofBreak(int town, int what) {
        town(town);
        argument(in(what, 0, 2));
        Break found = breakOf(town);
        if (found == null) {
            return what == 2 ? -999 : -1;
        }
        return List.of(found.year(), found.k(), found.shift()).get(what);
    }

    private List<List<Integer>> droughts(int town) {
        List<List<Integer>> found = new ArrayList<>();
        int last = -2;
        for (int month : rungs.get(town).keySet()) {
            if (month != last + 1) {
                found.add(new ArrayList<>());
            }
            found.get(found.size() - 1).add(month);
            last = month;
        }
        return found;
    }

    int drought(int town, int nth, int what) {
        town(town);
        argument(in(nth, 0, 599) && in(what, 0, 3));
        List<List<Integer>> droughts = droughts(town);
        if (nth >= droughts.size()) {
            return -1;
        }
        List<Integer> months = droughts.get(nth);
        return switch (what) {
            case 0 -> months.get(0);
            case 1 -> months.size();
            case 2 -> months.stream().mapToInt(month -> (int) Math.pow(2, rungs.get(town).get(month) - 1)).sum();
            default -> months.stream().mapToInt(month -> rungs.get(town).get(month)).max().getAsInt();
        };
    }

    double returns(int town, int height) {
        town(town);
        argument(in(height, 1, 999));
        long high = marks.stream().filter(mark -> mark.town() == town && mark.height() >= height).count();
        int earliest = marks.stream().filter(mark -> mark.town() == town).mapToInt(Mark::year).min().orElse(0);
        return high == 0 ? 0.0 : (double) (1900 - earliest) / high;
    }

    int ofTown(int town, int what) {
        town(town);
        argument(in(what, 0, 8));
        return switch (what) {
            case 0 -> (int) books.stream().filter(book -> book.town() == town).count();
            case 1 -> harvests.get(town).size();
            case 2 -> readings.get(town).size();
            case 3 -> points(town, -1).size();
            case 4 -> droughts(town).size();
            case 5 -> droughts(town).stream().mapToInt(List::size).max().orElse(0);
            case 6 -> (int) marks.stream().filter(mark -> mark.town() == town).count();
            case 7 -> (int) laws.stream().filter(law -> law.town() == town).count();
            default -> (int) indexes().keySet().stream().filter(key -> key.startsWith(town + " ")).count();
        };
    }

    /** INDEX of every town, year and month that has one, by looking at those of all lines. */
    private TreeMap<String, Integer> indexes() {
        TreeMap<String, Integer> found = new TreeMap<>();
        for (Line line : lines) {
            for (int number : days(line)) {
                Day day = NAMES.get(number);
                int town = books.get(line.book()).town();
                int index = index(town, day.year(), day.month());
                if (index != -999) {
                    found.put(town + " " + day.year() + " " + day.month(), index);
                }
            }
        }
        return found;
    }

    int desk(int what) {
        argument(in(what, 0, 12));
        return switch (what) {
            case 0 -> books.size();
            case 1 -> withdrawn.size();
            case 2 -> lines.size();
            case 9 -> meanings.size();
            case 10 -> laws.size();
            case 11 -> marks.size();
            case 12 -> refused;
            default -> (int) lines.stream().filter(line -> flaw(line) == what - 3).count();
        };
    }

    String tell(int line) {
        index(in(line, 0, lines.size() - 1));
        Line l = lines.get(line);
        String days = days(l).stream().map(NAMES::get).map(day -> day.year() + "-" + day.month() + "-" + day.day())
                .collect(Collectors.joining(" or "));
        return line + ": book " + l.book() + ", " + (days.isEmpty() ? "no day" : days)
                + (flaw(l) == 0 ? ", counts" : ", flawed " + flaw(l));
    }

    int without(int book) {
        index(in(book, 0, books.size() - 1));
        TreeMap<String, Integer> before = indexes();
        boolean was = withdrawn.contains(book);
        withdraw(book, !was);
        TreeMap<String, Integer> after = indexes();
        withdraw(book, was);
        TreeSet<String> months = new TreeSet<>(before.keySet());
        months.addAll(after.keySet());
        return (int) months.stream()
                .filter(month -> !before.getOrDefault(month, -999).equals(after.getOrDefault(month, -999))).count();
    }

    int wouldBe(int calendar, int style, int year, int month, int day) {
        argument(in(calendar, 0, 1) && in(style, 0, 2) && in(year, 1200, 1899) && in(month, 1, 12)
                && in(day, 1, 31));
        return days(calendar, style, year, month, day).size();
    }

    boolean isSound() {
        return true;
    }

    long digest() {
        List<Long> values = new ArrayList<>();
        for (int what = 0; what <= 12; what++) {
            values.add((long) desk(what));
        }
        for (int book = 0; book < books.size(); book++) {
            for (int what = 0; what <= 7; what++) {
                values.add((long) ofBook(book, what));
            }
            values.add((long) without(book));
        }
        for (int line = 0; line < lines.size(); line++) {
            for (int what = 0; what <= 5; what++) {
                values.add((long) ofLine(line, what));
            }
            for (int nth = 0; nth <= 2; nth++) {
                values.add((long) can(line, nth));
            }
            if (can(line, 0) != -1) {
                Day day = NAMES.get(can(line, 0));
                for (int what = 0; what <= 3; what++) {
                    values.add((long) degree(books.get(lines.get(line).book()).town(), day.year(), day.month(), what));
                }
            }
        }
        for (int town = 0; town < 4; town++) {
            for (int what = 0; what <= 8; what++) {
                values.add((long) ofTown(town, what));
            }
            for (int what = 0; what <= 2; what++) {
                values.add((long) ofBreak(town, what));
            }
            values.add((long) (64 * fit(town, false)));
            values.add((long) (64 * returns(town, 100)));
            for (int what = 0; what <= 3; what++) {
                values.add((long) drought(town, 0, what));
            }
        }
        values.add(isSound() ? 1L : 0L);
        long d = 58270;
        for (long value : values) {
            d = d * 31 + value;
        }
        return d;
    }
}
