import java.util.ArrayList;
import java.util.List;
import java.util.function.Supplier;

/**
 * Every parameter of every call at the least and the greatest that the document allows and just outside
 * of them, of an empty archive, one with some of everything, and a full one; that nothing is
 * changed by a refused call or by a question; and of two exceptions that apply the one named first.
 */
public final class EdgesTest {
    private interface Call {
        Object of(Diarycold x, int[] a);
    }

    /** A parameter of a call: what the document allows, and what is thrown outside of that. */
    private record Bounds(int least, int greatest, String thrown) {
        int[] inside() {
            return new int[] {least, greatest};
        }

        int[] outside() {
            return new int[] {least - 1, greatest + 1, Integer.MIN_VALUE, Integer.MAX_VALUE};
        }
    }

    private final String archive;
    private final Supplier<Diarycold> maker;
    private final int books;
    private final int lines;
    private final boolean isFull;
    private final Answers before;
    private boolean isAsking = false;

    private EdgesTest(String archive, Supplier<Diarycold> maker) {
        this.archive = archive;
        this.maker = maker;
        books = maker.get().desk(0);
        lines = maker.get().desk(2);
        isFull = books == 8;
        before = new Answers(maker);
    }

    public static void main(String[] args) {
        Check.due("two archives made alike", new Answers(Archives::filled).areAlso(new Answers(Archives::filled)), true);
        Check.due("two archives", new Answers(Archives::filled).areAlso(new Answers(Archives::full)), false);
        for (EdgesTest test : List.of(new EdgesTest("empty", Archives::empty), new EdgesTest("filled", Archives::filled),
                new EdgesTest("full", Archives::full))) {
            test.told();
            test.isAsking = true;
            test.days();
            test.asked();
            test.wouldBe();
        }
        turnedRound();
        Check.end();
    }

    private static Bounds index(int least, int greatest) {
        return new Bounds(least, greatest, Check.INDEX);
    }

    private static Bounds argument(int least, int greatest) {
        return new Bounds(least, greatest, Check.ARGUMENT);
    }

    private static int[] of(int... valid) {
        return valid;
    }

    private Bounds town() {
        return index(0, 3);
    }

    /** A book or a line of so many: with none of them there is no number that is allowed. */
    private Bounds oneOf(int many) {
        return index(0, many - 1);
    }

    private void told() {
        Bounds year = argument(1200, 1899);
        Bounds measured = argument(1700, 1799);
        Bounds month = argument(1, 12);
        String ifFull = isFull ? Check.STATE : "";
        bounds("book", ifFull, (x, a) -> x.book(a[0], a[1], a[2], a[3]), of(0, 1200, 1899, -1),
                town(), year, year, index(-1, books - 1));
        bounds("withdraw", "", (x, a) -> x.withdraw(a[0], true), of(0), oneOf(books));
        bounds("take back", "", (x, a) -> x.withdraw(a[0], false), of(0), oneOf(books));
        bounds("meaning", ifFull, (x, a) -> x.meaning(a[0], a[1], a[2]), of(0, 1700, 0),
                argument(0, 7), year, argument(-3, 3));
        bounds("line", ifFull, (x, a) -> x.line(a[0], a[1], a[2], a[3], a[4], a[5], a[6]), of(0, 0, 0, 1700, 1, 1, 0),
                oneOf(books), argument(0, 1), argument(0, 2), year, month, argument(1, 31), argument(0, 7));
        bounds("harvest", "", (x, a) -> x.harvest(a[0], a[1], a[2]), of(0, 1700, 200),
                town(), measured, argument(150, 330));
        bounds("law", ifFull, (x, a) -> x.law(a[0], a[1], a[2], a[3]), of(0, 1700, 1799, 9),
                town(), measured, measured, argument(0, 30));
        bounds("reading", "", (x, a) -> x.reading(a[0], a[1], a[2]), of(0, 1700, 77),
                town(), measured, argument(-300, 400));
        bounds("leaveOut", "", (x, a) -> x.leaveOut(a[0], a[1], true), of(0, 1700), town(), measured);
        bounds("take into", "", (x, a) -> x.leaveOut(a[0], a[1], false), of(0, 1701), town(), measured);
        bounds("mend", books == 0 ? Check.STATE : "", (x, a) -> x.mend(a[0]), of(0), town());
        bounds("prayer", "", (x, a) -> x.prayer(a[0], a[1], a[2], a[3]), of(0, 1700, 1, 5),
                town(), measured, month, argument(1, 5));
        bounds("mark", ifFull, (x, a) -> x.mark(a[0], a[1], a[2]), of(0, 1700, 1),
                town(), year, argument(1, 999));
    }

    private void days() {
        bounds("number", "", (x, a) -> x.number(a[0], a[1], a[2], a[3]), of(0, 1700, 1, 1),
                argument(0, 1), argument(1, 2000), argument(1, 12), argument(1, 31));
        bounds("named", "", (x, a) -> x.named(a[0], a[1]), of(500000, 0), argument(400000, 700000), argument(0, 2));
        bounds("easter", "", (x, a) -> x.easter(a[0], a[1]), of(0, 1700), argument(0, 1), argument(1200, 1900));
        bounds("can", "", (x, a) -> x.can(a[0], a[1]), of(0, 0), oneOf(lines), argument(0, 2));
    }

    private void asked() {
        Bounds wide = argument(1200, 1900);
        Bounds measured = argument(1700, 1799);
        bounds("ofBook", "", (x, a) -> x.ofBook(a[0], a[1]), of(0, 0), oneOf(books), argument(0, 7));
        bounds("means", "", (x, a) -> x.means(a[0], a[1]), of(0, 1700), argument(0, 7), wide);
        bounds("ofLine", "", (x, a) -> x.ofLine(a[0], a[1]), of(0, 0), oneOf(lines), argument(0, 5));
        bounds("degree", "", (x, a) -> x.degree(a[0], a[1], a[2], a[3]), of(0, 1700, 1, 0),
                town(), wide, argument(1, 12), argument(0, 3));
        bounds("ofYear", "", (x, a) -> x.ofYear(a[0], a[1], a[2]), of(0, 1700, 0), town(), measured, argument(0, 4));
        bounds("slope", "", (x, a) -> x.fit(a[0], false), of(0), town());
        bounds("start", "", (x, a) -> x.fit(a[0], true), of(0), town());
        bounds("heat", "", (x, a) -> x.heat(a[0], a[1]), of(0, 1700), town(), measured);
        bounds("ofBreak", "", (x, a) -> x.ofBreak(a[0], a[1]), of(0, 0), town(), argument(0, 2));
        bounds("drought", "", (x, a) -> x.drought(a[0], a[1], a[2]), of(0, 0, 0),
                town(), argument(0, 599), argument(0, 3));
        bounds("returns", "", (x, a) -> x.returns(a[0], a[1]), of(0, 1), town(), argument(1, 999));
        bounds("ofTown", "", (x, a) -> x.ofTown(a[0], a[1]), of(0, 0), town(), argument(0, 8));
        bounds("desk", "", (x, a) -> x.desk(a[0]), of(0), argument(0, 12));
        bounds("tell", "", (x, a) -> x.tell(a[0]), of(0), oneOf(lines));
    }

    private void wouldBe() {
        bounds("without", "", (x, a) -> x.without(a[0]), of(0), oneOf(books));
        bounds("wouldBe", "", (x, a) -> x.wouldBe(a[0], a[1], a[2], a[3], a[4]), of(0, 0, 1700, 1, 1),
                argument(0, 1), argument(0, 2), argument(1200, 1899), argument(1, 12), argument(1, 31));
        bounds("test", "", (x, a) -> x.test(a[0], a[1]), of(0, 1700), town(), argument(1700, 1799));
    }

    /** Looks at one call; otherwise is what it throws when all arguments are allowed ("" for nothing). */
    private void bounds(String name, String otherwise, Call call, int[] valid, Bounds... bounds) {
        for (int i = 0; i < bounds.length; i++) {
            for (int value : bounds[i].inside()) {
                due(name, call, with(valid, i, value), otherwise, bounds);
            }
            for (int value : bounds[i].outside()) {
                due(name, call, with(valid, i, value), otherwise, bounds);
            }
            for (int j = 0; j < i; j++) {
                for (int one : new int[] {bounds[i].least - 1, bounds[i].greatest + 1}) {
                    for (int other : new int[] {bounds[j].least - 1, bounds[j].greatest + 1}) {
                        due(name, call, with(with(valid, i, one), j, other), otherwise, bounds);
                    }
                }
            }
        }
    }

    private static int[] with(int[] valid, int place, int value) {
        int[] arguments = valid.clone();
        arguments[place] = value;
        return arguments;
    }

    /** Of all exceptions the index is named first, then the argument, then the state. */
    private static String thrownOf(int[] a, String otherwise, Bounds... bounds) {
        List<String> thrown = new ArrayList<>();
        for (int i = 0; i < a.length; i++) {
            if (a[i] < bounds[i].least || a[i] > bounds[i].greatest) {
                thrown.add(bounds[i].thrown);
            }
        }
        if (thrown.contains(Check.INDEX)) {
            return Check.INDEX;
        }
        return thrown.isEmpty() ? otherwise : Check.ARGUMENT;
    }

    private void due(String name, Call call, int[] a, String otherwise, Bounds... bounds) {
        String told = archive + ": " + name + java.util.Arrays.toString(a);
        String want = thrownOf(a, otherwise, bounds);
        Object got = Check.answer(() -> call.of(maker.get(), a));
        Check.due(told, got.toString().startsWith("throws.") ? got : "", want);
        if (isAsking || !want.isEmpty()) {
            Supplier<Diarycold> after = () -> {
                Diarycold x = maker.get();
                Check.answer(() -> call.of(x, a));
                return x;
            };
            Check.due("nothing is changed by " + told, new Answers(after).areAlso(before), true);
        }
    }

    /** A last year below the first one, both of them allowed. */
    private static void turnedRound() {
        for (int[] years : new int[][] {{1899, 1898}, {1899, 1200}, {1201, 1200}, {1700, 1699}}) {
            Check.refuses(Archives::filled, "book of " + years[0] + " to " + years[1],
                    x -> x.book(0, years[0], years[1], -1), Check.ARGUMENT);
            Check.refuses(Archives::full, "book of " + years[0] + " to " + years[1],
                    x -> x.book(0, years[0], years[1], -1), Check.ARGUMENT);
            Check.refuses(Archives::full, "book of no town, of " + years[0] + " to " + years[1],
                    x -> x.book(4, years[0], years[1], -1), Check.INDEX);
            Check.refuses(Archives::full, "book from none, of " + years[0] + " to " + years[1],
                    x -> x.book(3, years[0], years[1], 8), Check.INDEX);
        }
        for (int[] years : new int[][] {{1799, 1798}, {1799, 1700}, {1701, 1700}}) {
            Check.refuses(Archives::filled, "law of " + years[0] + " to " + years[1],
                    x -> x.law(0, years[0], years[1], 9), Check.ARGUMENT);
            Check.refuses(Archives::full, "law of " + years[0] + " to " + years[1],
                    x -> x.law(0, years[0], years[1], 9), Check.ARGUMENT);
            Check.refuses(Archives::full, "law of no town, of " + years[0] + " to " + years[1],
                    x -> x.law(-1, years[0], years[1], 9), Check.INDEX);
        }
    }
}
