import java.util.ArrayList;
import java.util.Arrays;

/** The weather of some centuries out of books that were about something else. */
public final class Diarycold {
    private static final int NONE = -1;
    private static final int GAP = -999;
    private static final int MEANS_NOTHING = -99;

    private static final int TOWNS = 4;
    private static final int MOST_BOOKS = 8;
    private static final int MOST_MEANINGS = 16;
    private static final int MOST_LINES = 40;
    private static final int MOST_LAWS = 8;
    private static final int MOST_MARKS = 20;

    private static final int FIRST_YEAR = 1200;
    private static final int LAST_YEAR = 1899;
    private static final int FIRST_MEASURED = 1700;
    private static final int LAST_MEASURED = 1799;
    private static final int FIRST_MONTH = FIRST_MEASURED * 12;
    private static final int LAST_MONTH = LAST_MEASURED * 12 + 11;

    private static final int COUNTS = 0;
    private static final int WITHDRAWN = 1;
    private static final int ON_NO_DAY = 2;
    private static final int IN_DOUBT = 3;
    private static final int TOO_LATE = 4;
    private static final int WITHOUT_MEANING = 5;

    private final Town[] towns = new Town[TOWNS];
    private final ArrayList<Book> books = new ArrayList<>();
    private final ArrayList<Meaning> meanings = new ArrayList<>();
    private final ArrayList<Line> lines = new ArrayList<>();
    private final ArrayList<Mark> marks = new ArrayList<>();
    private int laws = 0;
    private int refused = 0;

    // These three are filled anew for each question, so that no call has to make objects.
    private final Tally tally = new Tally();
    private final Fit ruler = new Fit();
    private final Cut cut = new Cut();

    public Diarycold() {
        for (int town = 0; town < towns.length; town++) {
            towns[town] = new Town();
        }
    }

    // ---- what is told

    public int book(int town, int from, int to, int copied)
            throws IndexOutOfBoundsException, IllegalArgumentException, IllegalStateException {
        townAt(town);
        if (copied != NONE) {
            bookAt(copied);
        }
        require(isYear(from) && isYear(to) && from <= to);
        requireRoom(books.size(), MOST_BOOKS);
        int number = books.size();
        int root = copied == NONE ? number : bookAt(copied).root;
        books.add(new Book(number, town, from, to, copied, root));
        return number;
    }

    public boolean withdraw(int book, boolean isWithdrawn) throws IndexOutOfBoundsException {
        Book told = bookAt(book);
        boolean was = told.isWithdrawn;
        told.isWithdrawn = isWithdrawn;
        return was;
    }

    public int meaning(int word, int year, int degree)
            throws IllegalArgumentException, IllegalStateException {
        require(isWord(word) && isYear(year) && isIn(degree, -3, 3));
        requireRoom(meanings.size(), MOST_MEANINGS);
        meanings.add(new Meaning(word, year, degree));
        readLinesAnew();
        return meanings.size();
    }

    public int line(int book, int calendar, int style, int year, int month, int day, int word)
            throws IndexOutOfBoundsException, IllegalArgumentException, IllegalStateException {
        Book told = bookAt(book);
        require(isDate(calendar, style, year, month, day) && isWord(word));
        requireRoom(lines.size(), MOST_LINES);
        int early = Days.inThisYear(calendar, style, year, month, day);
        int late = Days.inNextYear(calendar, style, year, month, day);
        int number = lines.size();
        lines.add(early == NONE
                ? new Line(told, word, late, NONE)
                : new Line(told, word, early, late));
        readLinesAnew();
        return number;
    }

    public int harvest(int town, int year, int day)
            throws IndexOutOfBoundsException, IllegalArgumentException {
        Town told = townAt(town);
        require(isMeasuredYear(year) && isIn(day, 150, 330));
        told.harvests.put(year, day);
        return told.harvests.countTold();
    }

    public int law(int town, int from, int to, int days)
            throws IndexOutOfBoundsException, IllegalArgumentException, IllegalStateException {
        Town told = townAt(town);
        require(isMeasuredYear(from) && isMeasuredYear(to) && from <= to && isIn(days, 0, 30));
        requireRoom(laws, MOST_LAWS);
        told.decree(from, to, days);
        laws++;
        return laws;
    }

    public int reading(int town, int year, int tenths)
            throws IndexOutOfBoundsException, IllegalArgumentException {
        Town told = townAt(town);
        require(isMeasuredYear(year) && isIn(tenths, -300, 400));
        told.readings.put(year, tenths);
        return told.readings.countTold();
    }

    public int leaveOut(int town, int year, boolean isOut)
            throws IndexOutOfBoundsException, IllegalArgumentException {
        Town told = townAt(town);
        require(isMeasuredYear(year));
        told.leftOut.put(year, isOut ? 1 : 0);
        return told.yearsOfFit();
    }

    public int mend(int town) throws IndexOutOfBoundsException, IllegalStateException {
        Town told = townAt(town);
        findBreak(told);
        if (!cut.isFound()) {
            throw new IllegalStateException("this town has no break");
        }
        told.shiftReadings(cut.firstYearBehind(), cut.shift());
        return cut.shift();
    }

    public int prayer(int town, int year, int month, int rung)
            throws IndexOutOfBoundsException, IllegalArgumentException {
        Town told = townAt(town);
        require(isMeasuredYear(year) && isMonth(month) && isIn(rung, 1, 5));
        int when = year * 12 + month - 1;
        told.rungs.put(when, Math.max(rung, told.rungs.at(when)));
        return told.rungs.at(when);
    }

    public int mark(int town, int year, int height)
            throws IndexOutOfBoundsException, IllegalArgumentException, IllegalStateException {
        townAt(town);
        require(isYear(year) && isHeight(height));
        requireRoom(marks.size(), MOST_MARKS);
        marks.add(new Mark(town, year, height));
        return marks.size();
    }

    public int call() {
        refused++;
        return refused;
    }

    // ---- days

    public int number(int calendar, int year, int month, int day) throws IllegalArgumentException {
        require(isCalendar(calendar) && isIn(year, 1, 2000) && isMonth(month) && isDayOfMonth(day));
        return Days.numberOf(calendar, year, month, day);
    }

    public int named(int number, int what) throws IllegalArgumentException {
        require(isIn(number, 400000, 700000) && isIn(what, 0, 2));
        if (what == 0) {
            return Days.yearOf(number);
        }
        return what == 1 ? Days.monthOf(number) : Days.dayOf(number);
    }

    public int easter(int calendar, int year) throws IllegalArgumentException {
        require(isCalendar(calendar) && isWideYear(year));
        return Days.easterOf(calendar, year);
    }

    public int can(int line, int nth) throws IndexOutOfBoundsException, IllegalArgumentException {
        Line asked = lineAt(line);
        require(isIn(nth, 0, 2));
        if (nth == 0) {
            return asked.firstDay;
        }
        return nth == 1 ? asked.secondDay : NONE;
    }

    // ---- what is asked

    public int ofBook(int book, int what) throws IndexOutOfBoundsException, IllegalArgumentException {
        Book asked = bookAt(book);
        require(isIn(what, 0, 7));
        switch (what) {
            case 0: return asked.town;
            case 1: return asked.from;
            case 2: return asked.to;
            case 3: return asked.copied;
            case 4: return asked.root;
            case 5: return asked.isWithdrawn ? 1 : 0;
            case 6: return linesOf(asked);
            default: return countingLinesOf(asked);
        }
    }

    public int means(int word, int year) throws IllegalArgumentException {
        require(isWord(word) && isWideYear(year));
        return meaningOf(word, year);
    }

    public int ofLine(int line, int what) throws IndexOutOfBoundsException, IllegalArgumentException {
        Line asked = lineAt(line);
        require(isIn(what, 0, 5));
        switch (what) {
            case 0: return asked.book.number;
            case 1: return flawOf(asked, NONE);
            case 2: return asked.countDays();
            case 3: return asked.year;
            case 4: return asked.month;
            default: return asked.degree;
        }
    }

    public int degree(int town, int year, int month, int what)
            throws IndexOutOfBoundsException, IllegalArgumentException {
        townAt(town);
        require(isWideYear(year) && isMonth(month) && isIn(what, 0, 3));
        weigh(town, year, month, NONE);
        switch (what) {
            case 0: return tally.index();
            case 1: return tally.witnesses;
            case 2: return tally.doubt();
            default: return tally.others;
        }
    }

    public int ofYear(int town, int year, int what)
            throws IndexOutOfBoundsException, IllegalArgumentException {
        Town asked = townAt(town);
        require(isMeasuredYear(year) && isIn(what, 0, 4));
        switch (what) {
            case 0: return asked.harvests.at(year);
            case 1: return asked.harvests.isTold(year) ? asked.ripeIn(year) : NONE;
            case 2: return asked.readings.at(year);
            case 3: return asked.delays.at(year);
            default: return asked.isInFit(year) ? 1 : 0;
        }
    }

    public double fit(int town, boolean isStart) throws IndexOutOfBoundsException {
        Town asked = townAt(town);
        measure(asked, NONE);
        return isStart ? ruler.start() : ruler.slope();
    }

    public double heat(int town, int year) throws IndexOutOfBoundsException, IllegalArgumentException {
        Town asked = townAt(town);
        require(isMeasuredYear(year));
        measure(asked, NONE);
        if (!asked.harvests.isTold(year) || !ruler.isFound()) {
            return (double) GAP;
        }
        return ruler.heatOf(asked.ripeIn(year));
    }

    public int ofBreak(int town, int what) throws IndexOutOfBoundsException, IllegalArgumentException {
        Town asked = townAt(town);
        require(isIn(what, 0, 2));
        findBreak(asked);
        if (!cut.isFound()) {
            return what == 2 ? GAP : NONE;
        }
        switch (what) {
            case 0: return cut.firstYearBehind();
            case 1: return cut.yearsBefore;
            default: return cut.shift();
        }
    }

    public int drought(int town, int nth, int what)
            throws IndexOutOfBoundsException, IllegalArgumentException {
        Town asked = townAt(town);
        require(isIn(nth, 0, 599) && isIn(what, 0, 3));
        int start = asked.startOfDrought(nth);
        if (start == NONE) {
            return NONE;
        }
        switch (what) {
            case 0: return start;
            case 1: return asked.monthsFrom(start);
            case 2: return asked.costFrom(start);
            default: return asked.greatestRungFrom(start);
        }
    }

    public double returns(int town, int height) throws IndexOutOfBoundsException, IllegalArgumentException {
        townAt(town);
        require(isHeight(height));
        int earliest = LAST_YEAR;
        int asHigh = 0;
        for (int i = 0; i < marks.size(); i++) {
            Mark mark = marks.get(i);
            if (mark.town == town) {
                earliest = Math.min(earliest, mark.year);
                asHigh += mark.height >= height ? 1 : 0;
            }
        }
        return asHigh == 0 ? 0.0 : (double) (LAST_YEAR - earliest + 1) / (double) asHigh;
    }

    public int ofTown(int town, int what) throws IndexOutOfBoundsException, IllegalArgumentException {
        Town asked = townAt(town);
        require(isIn(what, 0, 8));
        switch (what) {
            case 0: return booksOf(town);
            case 1: return asked.harvests.countTold();
            case 2: return asked.readings.countTold();
            case 3: return asked.yearsOfFit();
            case 4: return asked.countDroughts();
            case 5: return asked.longestDrought();
            case 6: return marksOf(town);
            case 7: return asked.laws;
            default: return monthsWithIndex(town);
        }
    }

    public int desk(int what) throws IllegalArgumentException {
        require(isIn(what, 0, 12));
        switch (what) {
            case 0: return books.size();
            case 1: return withdrawnBooks();
            case 2: return lines.size();
            case 9: return meanings.size();
            case 10: return laws;
            case 11: return marks.size();
            case 12: return refused;
            default: return linesWithFlaw(what - 3);
        }
    }

    public String tell(int line) throws IndexOutOfBoundsException {
        Line told = lineAt(line);
        StringBuilder text = new StringBuilder();
        text.append(line).append(": book ").append(told.book.number).append(", ");
        if (told.firstDay == NONE) {
            text.append("no day");
        } else {
            appendDay(text, told.firstDay);
        }
        if (told.secondDay != NONE) {
            text.append(" or ");
            appendDay(text, told.secondDay);
        }
        int flaw = flawOf(told, NONE);
        if (flaw == COUNTS) {
            text.append(", counts");
        } else {
            text.append(", flawed ").append(flaw);
        }
        return text.toString();
    }

    // ---- what would be (nothing is changed)

    public int without(int book) throws IndexOutOfBoundsException {
        Book turned = bookAt(book);
        int changed = 0;
        // The index can change in no other months than those of this book's own lines.
        for (int i = 0; i < lines.size(); i++) {
            Line line = lines.get(i);
            if (line.book == turned && line.firstDay != NONE && isFirstOfBookInMonth(i)) {
                weigh(turned.town, line.year, line.month, NONE);
                int before = tally.index();
                weigh(turned.town, line.year, line.month, book);
                changed += tally.index() != before ? 1 : 0;
            }
        }
        return changed;
    }

    public int wouldBe(int calendar, int style, int year, int month, int day)
            throws IllegalArgumentException {
        require(isDate(calendar, style, year, month, day));
        int early = Days.inThisYear(calendar, style, year, month, day);
        int late = Days.inNextYear(calendar, style, year, month, day);
        return (early == NONE ? 0 : 1) + (late == NONE ? 0 : 1);
    }

    public double test(int town, int year) throws IndexOutOfBoundsException, IllegalArgumentException {
        Town asked = townAt(town);
        require(isMeasuredYear(year));
        measure(asked, year);
        if (!ruler.isFound() || !asked.harvests.isTold(year) || !asked.readings.isTold(year)) {
            return (double) GAP;
        }
        return ruler.heatOf(asked.ripeIn(year)) - (double) asked.readings.at(year);
    }

    public boolean isSound() {
        return areAllLinesJudged() && areCopiesLater() && areIndexesInBounds() && areDroughtsWhole();
    }

    public long digest() {
        long sum = 58270;
        for (int what = 0; what <= 12; what++) {
            sum = sum * 31 + desk(what);
        }
        for (int book = 0; book < books.size(); book++) {
            sum = withBook(sum, book);
        }
        for (int line = 0; line < lines.size(); line++) {
            sum = withLine(sum, line);
        }
        for (int town = 0; town < towns.length; town++) {
            sum = withTown(sum, town);
        }
        return sum * 31 + (isSound() ? 1 : 0);
    }

    // ---- what arguments may be

    private static boolean isIn(int value, int least, int greatest) {
        return least <= value && value <= greatest;
    }

    private static boolean isYear(int year) {
        return isIn(year, FIRST_YEAR, LAST_YEAR);
    }

    // Days of the last year by another calendar or style can lie in the year behind it.
    private static boolean isWideYear(int year) {
        return isIn(year, FIRST_YEAR, LAST_YEAR + 1);
    }

    private static boolean isMeasuredYear(int year) {
        return isIn(year, FIRST_MEASURED, LAST_MEASURED);
    }

    private static boolean isMonth(int month) {
        return isIn(month, 1, 12);
    }

    private static boolean isDayOfMonth(int day) {
        return isIn(day, 1, 31);
    }

    private static boolean isCalendar(int calendar) {
        return isIn(calendar, 0, 1);
    }

    private static boolean isWord(int word) {
        return isIn(word, 0, 7);
    }

    private static boolean isHeight(int height) {
        return isIn(height, 1, 999);
    }

    private static boolean isDate(int calendar, int style, int year, int month, int day) {
        return isCalendar(calendar) && isIn(style, 0, 2) && isYear(year) && isMonth(month)
                && isDayOfMonth(day);
    }

    private static void require(boolean isRight) {
        if (!isRight) {
            throw new IllegalArgumentException("an argument is outside its bounds");
        }
    }

    private static void requireRoom(int there, int most) {
        if (there >= most) {
            throw new IllegalStateException("there are as many as there can be");
        }
    }

    private Town townAt(int town) {
        if (town < 0 || town >= towns.length) {
            throw new IndexOutOfBoundsException("no such town");
        }
        return towns[town];
    }

    private Book bookAt(int book) {
        if (book < 0 || book >= books.size()) {
            throw new IndexOutOfBoundsException("no such book");
        }
        return books.get(book);
    }

    private Line lineAt(int line) {
        if (line < 0 || line >= lines.size()) {
            throw new IndexOutOfBoundsException("no such line");
        }
        return lines.get(line);
    }

    // ---- books, words and lines

    private int meaningOf(int word, int year) {
        int degree = MEANS_NOTHING;
        int since = FIRST_YEAR;
        for (int i = 0; i < meanings.size(); i++) {
            Meaning meaning = meanings.get(i);
            if (meaning.word == word && since <= meaning.year && meaning.year <= year) {
                since = meaning.year;
                degree = meaning.degree;
            }
        }
        return degree;
    }

    private void readLinesAnew() {
        for (int i = 0; i < lines.size(); i++) {
            Line line = lines.get(i);
            line.degree = meaningOf(line.word, line.year);
        }
    }

    /** Why a line does not count, as if the book with the number turned were withdrawn or not the other way. */
    private int flawOf(Line line, int turned) {
        boolean isTurned = line.book.number == turned;
        if (line.book.isWithdrawn != isTurned) {
            return WITHDRAWN;
        }
        if (line.firstDay == NONE) {
            return ON_NO_DAY;
        }
        if (line.isInDoubt) {
            return IN_DOUBT;
        }
        if (line.year > line.book.to) {
            return TOO_LATE;
        }
        return line.degree == MEANS_NOTHING ? WITHOUT_MEANING : COUNTS;
    }

    private int linesOf(Book book) {
        int found = 0;
        for (int i = 0; i < lines.size(); i++) {
            found += lines.get(i).book == book ? 1 : 0;
        }
        return found;
    }

    private int countingLinesOf(Book book) {
        int found = 0;
        for (int i = 0; i < lines.size(); i++) {
            Line line = lines.get(i);
            found += line.book == book && flawOf(line, NONE) == COUNTS ? 1 : 0;
        }
        return found;
    }

    private int linesWithFlaw(int flaw) {
        int found = 0;
        for (int i = 0; i < lines.size(); i++) {
            found += flawOf(lines.get(i), NONE) == flaw ? 1 : 0;
        }
        return found;
    }

    private int booksOf(int town) {
        int found = 0;
        for (int i = 0; i < books.size(); i++) {
            found += books.get(i).town == town ? 1 : 0;
        }
        return found;
    }

    private int withdrawnBooks() {
        int found = 0;
        for (int i = 0; i < books.size(); i++) {
            found += books.get(i).isWithdrawn ? 1 : 0;
        }
        return found;
    }

    private int marksOf(int town) {
        int found = 0;
        for (int i = 0; i < marks.size(); i++) {
            found += marks.get(i).town == town ? 1 : 0;
        }
        return found;
    }

    private static void appendDay(StringBuilder text, int number) {
        text.append(Days.yearOf(number)).append('-').append(Days.monthOf(number));
        text.append('-').append(Days.dayOf(number));
    }

    // ---- degrees

    private boolean countsThere(Line line, int town, int year, int month, int turned) {
        return line.book.town == town && line.year == year && line.month == month
                && flawOf(line, turned) == COUNTS;
    }

    private void weigh(int town, int year, int month, int turned) {
        int heard = firstOfEachRoot(booksThere(town, year, month, turned));
        tally.clear();
        for (int i = 0; i < lines.size(); i++) {
            Line line = lines.get(i);
            if (countsThere(line, town, year, month, turned)) {
                if ((heard & (1 << line.book.number)) != 0) {
                    tally.hear(line.degree);
                } else {
                    tally.others++;
                }
            }
        }
    }

    /** The set of books that have a line which counts there. */
    private int booksThere(int town, int year, int month, int turned) {
        int set = 0;
        for (int i = 0; i < lines.size(); i++) {
            Line line = lines.get(i);
            if (countsThere(line, town, year, month, turned)) {
                set |= 1 << line.book.number;
            }
        }
        return set;
    }

    private int firstOfEachRoot(int set) {
        int firsts = 0;
        int roots = 0;
        for (int i = 0; i < books.size(); i++) {
            int root = 1 << books.get(i).root;
            if ((set & (1 << i)) != 0 && (roots & root) == 0) {
                roots |= root;
                firsts |= 1 << i;
            }
        }
        return firsts;
    }

    private int monthsWithIndex(int town) {
        int months = 0;
        for (int i = 0; i < lines.size(); i++) {
            Line line = lines.get(i);
            if (line.book.town == town && flawOf(line, NONE) == COUNTS && isFirstOfTownInMonth(i)) {
                months++;
            }
        }
        return months;
    }

    private boolean isFirstOfTownInMonth(int number) {
        Line line = lineAt(number);
        for (int i = 0; i < number; i++) {
            if (countsThere(lineAt(i), line.book.town, line.year, line.month, NONE)) {
                return false;
            }
        }
        return true;
    }

    private boolean isFirstOfBookInMonth(int number) {
        Line line = lineAt(number);
        for (int i = 0; i < number; i++) {
            Line other = lineAt(i);
            if (other.book == line.book && other.year == line.year && other.month == line.month) {
                return false;
            }
        }
        return true;
    }

    // ---- harvests and instruments

    private void measure(Town town, int skipped) {
        ruler.clear();
        for (int year = FIRST_MEASURED; year <= LAST_MEASURED; year++) {
            if (year != skipped && town.isInFit(year)) {
                ruler.add(town.ripeIn(year), town.readings.at(year));
            }
        }
    }

    private void findBreak(Town town) {
        cut.clear();
        for (int year = FIRST_MEASURED; year <= LAST_MEASURED; year++) {
            int others = readingsBeside(town, year);
            if (town.readings.isTold(year) && others > 0) {
                cut.add(year, town.readings.at(year) - sumBeside(town, year) / others);
            }
        }
        cut.choose();
    }

    private int readingsBeside(Town town, int year) {
        int found = 0;
        for (int i = 0; i < towns.length; i++) {
            found += towns[i] != town && towns[i].readings.isTold(year) ? 1 : 0;
        }
        return found;
    }

    private int sumBeside(Town town, int year) {
        int sum = 0;
        for (int i = 0; i < towns.length; i++) {
            if (towns[i] != town && towns[i].readings.isTold(year)) {
                sum += towns[i].readings.at(year);
            }
        }
        return sum;
    }

    // ---- whether all is sound

    private boolean areAllLinesJudged() {
        int judged = 0;
        for (int flaw = COUNTS; flaw <= WITHOUT_MEANING; flaw++) {
            judged += linesWithFlaw(flaw);
        }
        return judged == lines.size();
    }

    private boolean areCopiesLater() {
        for (int i = 0; i < books.size(); i++) {
            if (books.get(i).copied >= i) {
                return false;
            }
        }
        return true;
    }

    private boolean areIndexesInBounds() {
        for (int i = 0; i < lines.size(); i++) {
            Line line = lines.get(i);
            weigh(line.book.town, line.year, line.month, NONE);
            if (tally.witnesses > 0 && !isIn(tally.index(), -300, 300)) {
                return false;
            }
        }
        return true;
    }

    private boolean areDroughtsWhole() {
        for (int i = 0; i < towns.length; i++) {
            Town town = towns[i];
            if (!town.areRungsInBounds() || town.monthsOfDroughts() != town.rungs.countTold()) {
                return false;
            }
        }
        return true;
    }

    // ---- the parts of the checksum

    private long withBook(long start, int book) {
        long sum = start;
        for (int what = 0; what <= 7; what++) {
            sum = sum * 31 + ofBook(book, what);
        }
        return sum * 31 + without(book);
    }

    private long withLine(long start, int number) {
        long sum = start;
        for (int what = 0; what <= 5; what++) {
            sum = sum * 31 + ofLine(number, what);
        }
        for (int nth = 0; nth <= 2; nth++) {
            sum = sum * 31 + can(number, nth);
        }
        Line line = lineAt(number);
        if (line.firstDay == NONE) {
            return sum;
        }
        for (int what = 0; what <= 3; what++) {
            sum = sum * 31 + degree(line.book.town, line.year, line.month, what);
        }
        return sum;
    }

    private long withTown(long start, int town) {
        long sum = start;
        for (int what = 0; what <= 8; what++) {
            sum = sum * 31 + ofTown(town, what);
        }
        for (int what = 0; what <= 2; what++) {
            sum = sum * 31 + ofBreak(town, what);
        }
        sum = sum * 31 + (long) (64.0 * fit(town, false));
        sum = sum * 31 + (long) (64.0 * returns(town, 100));
        for (int what = 0; what <= 3; what++) {
            sum = sum * 31 + drought(town, 0, what);
        }
        return sum;
    }

    /** Days by the two calendars: 0 the old one, 1 the new one. */
    private static final class Days {
        private static final int CYCLE = 146097;
        private static final int CENTURY = 36524;
        private static final int FOUR_YEARS = 1461;

        private static int lengthOf(int calendar, int year, int month) {
            if (month == 2) {
                boolean isCommonCentury = calendar == 1 && year % 100 == 0 && year % 400 != 0;
                return year % 4 == 0 && !isCommonCentury ? 29 : 28;
            }
            return month == 4 || month == 6 || month == 9 || month == 11 ? 30 : 31;
        }

        /** The number of 1 March of a year, before which every 29 February of earlier years lies. */
        private static int firstOfMarch(int calendar, int year) {
            int leapDays = calendar == 0 ? year / 4 : year / 4 - year / 100 + year / 400 + 2;
            return 365 * year + leapDays;
        }

        static int numberOf(int calendar, int year, int month, int day) {
            if (day > lengthOf(calendar, year, month)) {
                return NONE;
            }
            int marchYear = month <= 2 ? year - 1 : year;
            int monthsSinceMarch = (month + 9) % 12;
            return firstOfMarch(calendar, marchYear) + (153 * monthsSinceMarch + 2) / 5 + day - 1;
        }

        /** The year by the new calendar, as if it began on 1 March. */
        private static int marchYearOf(int number) {
            int days = number - 2;
            int cycles = days / CYCLE;
            int left = days % CYCLE;
            // The last century of a cycle and the last year of four are a day longer.
            int centuries = Math.min(left / CENTURY, 3);
            left -= centuries * CENTURY;
            int fours = left / FOUR_YEARS;
            left -= fours * FOUR_YEARS;
            int years = Math.min(left / 365, 3);
            return cycles * 400 + centuries * 100 + fours * 4 + years;
        }

        private static int daysSinceMarch(int number) {
            return number - firstOfMarch(1, marchYearOf(number));
        }

        private static int monthsSinceMarch(int number) {
            return (5 * daysSinceMarch(number) + 2) / 153;
        }

        static int yearOf(int number) {
            return marchYearOf(number) + (monthsSinceMarch(number) >= 10 ? 1 : 0);
        }

        static int monthOf(int number) {
            return (monthsSinceMarch(number) + 2) % 12 + 1;
        }

        static int dayOf(int number) {
            return daysSinceMarch(number) - (153 * monthsSinceMarch(number) + 2) / 5 + 1;
        }

        static int easterOf(int calendar, int year) {
            return calendar == 0 ? oldEaster(year) : newEaster(year);
        }

        private static int oldEaster(int year) {
            int d = (19 * (year % 19) + 15) % 30;
            int e = (2 * (year % 4) + 4 * (year % 7) - d + 34) % 7;
            int sum = d + e + 114;
            return numberOf(0, year, sum / 31, sum % 31 + 1);
        }

        private static int newEaster(int year) {
            int a = year % 19;
            int b = year / 100;
            int c = year % 100;
            int f = (b + 8) / 25;
            int g = (b - f + 1) / 3;
            int h = (19 * a + b - b / 4 - g + 15) % 30;
            int l = (32 + 2 * (b % 4) + 2 * (c / 4) - h - c % 4) % 7;
            int m = (a + 11 * h + 22 * l) / 451;
            int sum = h + l - 7 * m + 114;
            return numberOf(1, year, sum / 31, sum % 31 + 1);
        }

        private static boolean isLadyDayOrLater(int month, int day) {
            return month > 3 || month == 3 && day >= 25;
        }

        private static boolean isBetweenEasters(int calendar, int year, int number) {
            return easterOf(calendar, year) <= number && number < easterOf(calendar, year + 1);
        }

        /** The day of a date in the year that it names, if it can be that one; otherwise NONE. */
        static int inThisYear(int calendar, int style, int year, int month, int day) {
            int number = numberOf(calendar, year, month, day);
            boolean canBe = style == 0
                    || style == 1 && isLadyDayOrLater(month, day)
                    || style == 2 && isBetweenEasters(calendar, year, number);
            return canBe ? number : NONE;
        }

        /** The day of a date in the year behind the one that it names, if it can be that one; otherwise NONE. */
        static int inNextYear(int calendar, int style, int year, int month, int day) {
            int number = numberOf(calendar, year + 1, month, day);
            boolean canBe = style == 1 && !isLadyDayOrLater(month, day)
                    || style == 2 && isBetweenEasters(calendar, year, number);
            return canBe ? number : NONE;
        }
    }

    /** Numbers by years or months from a first one on, each told or empty. */
    private static final class Row {
        private final int first;
        private final int empty;
        private final int[] cells;

        Row(int first, int last, int empty) {
            this.first = first;
            this.empty = empty;
            cells = new int[Math.max(last - first + 1, 0)];
            Arrays.fill(cells, empty);
        }

        int at(int when) {
            int place = when - first;
            return place < 0 || place >= cells.length ? empty : cells[place];
        }

        void put(int when, int value) {
            int place = when - first;
            if (place >= 0 && place < cells.length) {
                cells[place] = value;
            }
        }

        boolean isTold(int when) {
            return at(when) != empty;
        }

        int countTold() {
            int told = 0;
            for (int i = 0; i < cells.length; i++) {
                told += cells[i] != empty ? 1 : 0;
            }
            return told;
        }
    }

    /** Harvests, readings and prayers of one town. */
    private static final class Town {
        private static final int LEAST_READING = -900;
        private static final int GREATEST_READING = 900;

        final Row harvests = new Row(FIRST_MEASURED, LAST_MEASURED, NONE);
        final Row readings = new Row(FIRST_MEASURED, LAST_MEASURED, GAP);
        final Row delays = new Row(FIRST_MEASURED, LAST_MEASURED, 0);
        final Row leftOut = new Row(FIRST_MEASURED, LAST_MEASURED, 0);
        final Row rungs = new Row(FIRST_MONTH, LAST_MONTH, 0);
        int laws = 0;

        void decree(int from, int to, int days) {
            for (int year = from; year <= to; year++) {
                delays.put(year, delays.at(year) + days);
            }
            laws++;
        }

        int ripeIn(int year) {
            return harvests.at(year) - delays.at(year);
        }

        boolean isInFit(int year) {
            return harvests.isTold(year) && readings.isTold(year) && !leftOut.isTold(year);
        }

        int yearsOfFit() {
            int years = 0;
            for (int year = FIRST_MEASURED; year <= LAST_MEASURED; year++) {
                years += isInFit(year) ? 1 : 0;
            }
            return years;
        }

        void shiftReadings(int behind, int shift) {
            for (int year = FIRST_MEASURED; year < behind; year++) {
                if (readings.isTold(year)) {
                    int moved = readings.at(year) + shift;
                    readings.put(year, Math.max(LEAST_READING, Math.min(GREATEST_READING, moved)));
                }
            }
        }

        private boolean isStartOfDrought(int month) {
            return rungs.isTold(month) && !rungs.isTold(month - 1);
        }

        int startOfDrought(int nth) {
            int left = nth;
            for (int month = FIRST_MONTH; month <= LAST_MONTH; month++) {
                if (isStartOfDrought(month)) {
                    if (left == 0) {
                        return month;
                    }
                    left--;
                }
            }
            return NONE;
        }

        int countDroughts() {
            int droughts = 0;
            for (int month = FIRST_MONTH; month <= LAST_MONTH; month++) {
                droughts += isStartOfDrought(month) ? 1 : 0;
            }
            return droughts;
        }

        int monthsFrom(int start) {
            int months = 0;
            for (int month = start; month <= LAST_MONTH && rungs.isTold(month); month++) {
                months++;
            }
            return months;
        }

        int costFrom(int start) {
            int cost = 0;
            for (int month = start; month <= LAST_MONTH && rungs.isTold(month); month++) {
                cost += 1 << (rungs.at(month) - 1);
            }
            return cost;
        }

        int greatestRungFrom(int start) {
            int greatest = 0;
            for (int month = start; month <= LAST_MONTH && rungs.isTold(month); month++) {
                greatest = Math.max(greatest, rungs.at(month));
            }
            return greatest;
        }

        int longestDrought() {
            int longest = 0;
            for (int month = FIRST_MONTH; month <= LAST_MONTH; month++) {
                if (isStartOfDrought(month)) {
                    longest = Math.max(longest, monthsFrom(month));
                }
            }
            return longest;
        }

        int monthsOfDroughts() {
            int months = 0;
            for (int month = FIRST_MONTH; month <= LAST_MONTH; month++) {
                if (isStartOfDrought(month)) {
                    months += monthsFrom(month);
                }
            }
            return months;
        }

        boolean areRungsInBounds() {
            for (int month = FIRST_MONTH; month <= LAST_MONTH; month++) {
                if (!isIn(rungs.at(month), 0, 5)) {
                    return false;
                }
            }
            return true;
        }
    }

    private static final class Book {
        final int number;
        final int town;
        final int from;
        final int to;
        final int copied;
        final int root;
        boolean isWithdrawn = false;

        Book(int number, int town, int from, int to, int copied, int root) {
            this.number = number;
            this.town = town;
            this.from = from;
            this.to = to;
            this.copied = copied;
            this.root = root;
        }
    }

    private static final class Meaning {
        final int word;
        final int year;
        final int degree;

        Meaning(int word, int year, int degree) {
            this.word = word;
            this.year = year;
            this.degree = degree;
        }
    }

    /**
     * A line with the days on which it can be; its year and month are those of the first day, its
     * degree is what its word means then. That is kept, as it changes only when a meaning is told.
     */
    private static final class Line {
        final Book book;
        final int word;
        final int firstDay;
        final int secondDay;
        final boolean isInDoubt;
        final int year;
        final int month;
        int degree = MEANS_NOTHING;

        Line(Book book, int word, int firstDay, int secondDay) {
            this.book = book;
            this.word = word;
            this.firstDay = firstDay;
            this.secondDay = secondDay;
            year = firstDay == NONE ? NONE : Days.yearOf(firstDay);
            month = firstDay == NONE ? NONE : Days.monthOf(firstDay);
            isInDoubt = secondDay != NONE
                    && (Days.yearOf(secondDay) != year || Days.monthOf(secondDay) != month);
        }

        int countDays() {
            return (firstDay == NONE ? 0 : 1) + (secondDay == NONE ? 0 : 1);
        }
    }

    private static final class Mark {
        final int town;
        final int year;
        final int height;

        Mark(int town, int year, int height) {
            this.town = town;
            this.year = year;
            this.height = height;
        }
    }

    /** What the lines that count in one month of one town tell together. */
    private static final class Tally {
        int witnesses = 0;
        int others = 0;
        private int sum = 0;
        private int least = 0;
        private int greatest = 0;

        void clear() {
            witnesses = 0;
            others = 0;
            sum = 0;
            least = 0;
            greatest = 0;
        }

        void hear(int degree) {
            least = witnesses == 0 ? degree : Math.min(least, degree);
            greatest = witnesses == 0 ? degree : Math.max(greatest, degree);
            sum += degree;
            witnesses++;
        }

        int index() {
            return witnesses == 0 ? GAP : sum * 100 / witnesses;
        }

        int doubt() {
            return greatest - least;
        }
    }

    /** The line by least squares through the points that were added. */
    private static final class Fit {
        private long points = 0;
        private long sumX = 0;
        private long sumY = 0;
        private long products = 0;
        private long squares = 0;

        void clear() {
            points = 0;
            sumX = 0;
            sumY = 0;
            products = 0;
            squares = 0;
        }

        void add(long x, long y) {
            points++;
            sumX += x;
            sumY += y;
            products += x * y;
            squares += x * x;
        }

        /** This is 0 only if all x are alike. */
        private long spread() {
            return points * squares - sumX * sumX;
        }

        boolean isFound() {
            return points >= 3 && spread() != 0;
        }

        double slope() {
            if (!isFound()) {
                return 0.0;
            }
            return (double) (points * products - sumX * sumY) / (double) spread();
        }

        double start() {
            if (!isFound()) {
                return 0.0;
            }
            return ((double) sumY - slope() * (double) sumX) / (double) points;
        }

        double heatOf(int ripe) {
            return start() + slope() * (double) ripe;
        }
    }

    /** The break in the row of years and offs that were added. */
    private static final class Cut {
        private static final int YEARS = LAST_MEASURED - FIRST_MEASURED + 1;

        private final int[] years = new int[YEARS];
        private final int[] offs = new int[YEARS];
        private int count = 0;
        private int total = 0;
        int yearsBefore = 0;
        private int offBefore = 0;
        private long gainAbove = 0;
        private long gainBelow = 1;

        void clear() {
            count = 0;
            total = 0;
            forget();
        }

        private void forget() {
            yearsBefore = 0;
            offBefore = 0;
            gainAbove = 0;
            gainBelow = 1;
        }

        void add(int year, int off) {
            if (count < years.length && count < offs.length) {
                years[count] = year;
                offs[count] = off;
                count++;
                total += off;
            }
        }

        /** The greatest gain, as a fraction: no two of them are ever rounded alike. */
        void choose() {
            int before = 0;
            for (int k = 1; k < count && k < offs.length; k++) {
                before += offs[k - 1];
                long lean = (long) before * (count - k) - (long) (total - before) * k;
                long above = lean * lean;
                long below = (long) k * (count - k);
                if (yearsBefore == 0 || above * gainBelow > gainAbove * below) {
                    yearsBefore = k;
                    offBefore = before;
                    gainAbove = above;
                    gainBelow = below;
                }
            }
            if (count < 4 || gainAbove < 400L * count * gainBelow) {
                forget();
            }
        }

        boolean isFound() {
            return yearsBefore > 0 && yearsBefore < count;
        }

        int firstYearBehind() {
            return isFound() && yearsBefore < years.length ? years[yearsBefore] : NONE;
        }

        int shift() {
            if (!isFound()) {
                return GAP;
            }
            return (total - offBefore) / (count - yearsBefore) - offBefore / yearsBefore;
        }
    }
}
