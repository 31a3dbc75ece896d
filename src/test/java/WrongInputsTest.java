import java.util.function.Supplier;

/** Wrong inputs of every call, which of several exceptions is thrown, and that nothing changes by it. */
public final class WrongInputsTest {
    private static final int LOW = Integer.MIN_VALUE;
    private static final int HIGH = Integer.MAX_VALUE;

    private interface Call {
        Object with(int[] a);
    }

    public static void main(String[] args) {
        Diarycold x = filled();
        told(x);
        asked(x);
        Diarycold full = full();
        order(full);
        everyKind(WrongInputsTest::filled);
        everyKind(Archives::filled);
        everyKind(WrongInputsTest::full);
        everyKind(Diarycold::new);
        Check.end();
    }

    private static Diarycold filled() {
        Diarycold x = new Diarycold();
        x.book(0, 1700, 1710, -1);
        x.book(0, 1700, 1710, 0);
        x.meaning(0, 1700, 1);
        x.line(0, 1, 0, 1705, 1, 1, 0);
        x.harvest(0, 1700, 200);
        x.reading(0, 1700, 100);
        x.prayer(0, 1700, 1, 1);
        x.mark(0, 1700, 100);
        return x;
    }

    private static Diarycold full() {
        Diarycold x = new Diarycold();
        for (int i = 0; i < 8; i++) {
            x.book(0, 1700, 1710, -1);
            x.law(0, 1700, 1710, 1);
        }
        for (int i = 0; i < 16; i++) {
            x.meaning(0, 1700, 1);
        }
        for (int i = 0; i < 20; i++) {
            x.mark(0, 1700, 1);
        }
        for (int i = 0; i < 40; i++) {
            x.line(0, 1, 0, 1705, 1, 1, 0);
        }
        return x;
    }

    private static void refuses(Diarycold x, String name, Call call, String want, int[]... rows) {
        for (int[] a : rows) {
            Supplier<Object> got = () -> call.with(a);
            Check.refuses(x, name + java.util.Arrays.toString(a), got, want);
        }
    }

    private static int[] of(int... a) {
        return a;
    }

    private static void told(Diarycold x) {
        Call book = a -> x.book(a[0], a[1], a[2], a[3]);
        refuses(x, "book", book, Check.INDEX, of(-1, 1700, 1710, -1), of(4, 1700, 1710, -1),
                of(0, 1700, 1710, -2), of(0, 1700, 1710, 2), of(LOW, 1, 1, 1), of(0, 1710, 1700, 2),
                of(0, 1700, 1710, LOW), of(0, 1700, 1710, HIGH));
        refuses(x, "book", book, Check.ARGUMENT, of(0, 1199, 1710, -1), of(0, 1900, 1900, -1),
                of(0, 1700, 1900, 0), of(0, 1700, 1699, 1), of(0, LOW, HIGH, 1), of(0, 1199, 1199, 1));
        Call line = a -> x.line(a[0], a[1], a[2], a[3], a[4], a[5], a[6]);
        refuses(x, "line", line, Check.INDEX, of(-1, 0, 0, 1700, 1, 1, 0), of(2, 0, 0, 1700, 1, 1, 0),
                of(2, 9, 9, 9, 99, 99, 99));
        refuses(x, "line", line, Check.ARGUMENT, of(0, -1, 0, 1700, 1, 1, 0), of(0, 2, 0, 1700, 1, 1, 0),
                of(0, 0, -1, 1700, 1, 1, 0), of(0, 0, 3, 1700, 1, 1, 0), of(0, 0, 0, 1199, 1, 1, 0),
                of(0, 0, 0, 1900, 1, 1, 0), of(0, 0, 0, 1700, 0, 1, 0), of(0, 0, 0, 1700, 13, 1, 0),
                of(0, 0, 0, 1700, 1, 0, 0), of(0, 0, 0, 1700, 1, 32, 0), of(0, 0, 0, 1700, 1, 1, -1),
                of(0, 0, 0, 1700, 1, 1, 8));
        refuses(x, "withdraw", a -> x.withdraw(a[0], true), Check.INDEX, of(-1), of(2), of(LOW), of(HIGH));
        refuses(x, "meaning", a -> x.meaning(a[0], a[1], a[2]), Check.ARGUMENT, of(-1, 1700, 0), of(8, 1700, 0),
                of(0, 1199, 0), of(0, 1900, 0), of(0, 1700, -4), of(0, 1700, 4));
        Call harvest = a -> x.harvest(a[0], a[1], a[2]);
        refuses(x, "harvest", harvest, Check.INDEX, of(-1, 1700, 200), of(4, 1, 1));
        refuses(x, "harvest", harvest, Check.ARGUMENT, of(0, 1699, 200), of(0, 1800, 200), of(0, 1700, 149),
                of(0, 1700, 331));
        Call law = a -> x.law(a[0], a[1], a[2], a[3]);
        refuses(x, "law", law, Check.INDEX, of(-1, 1700, 1700, 1), of(4, 1, 1, 1));
        refuses(x, "law", law, Check.ARGUMENT, of(0, 1699, 1700, 1), of(0, 1800, 1800, 1), of(0, 1700, 1800, 1),
                of(0, 1701, 1700, 1), of(0, 1700, 1700, -1), of(0, 1700, 1700, 31), of(0, 1699, 1699, 1));
        Call reading = a -> x.reading(a[0], a[1], a[2]);
        refuses(x, "reading", reading, Check.INDEX, of(-1, 1700, 0), of(4, 1, 9999));
        refuses(x, "reading", reading, Check.ARGUMENT, of(0, 1699, 0), of(0, 1800, 0), of(0, 1700, -301),
                of(0, 1700, 401));
        Call leaveOut = a -> x.leaveOut(a[0], a[1], true);
        refuses(x, "leaveOut", leaveOut, Check.INDEX, of(-1, 1700), of(4, 1));
        refuses(x, "leaveOut", leaveOut, Check.ARGUMENT, of(0, 1699), of(0, 1800));
        refuses(x, "mend", a -> x.mend(a[0]), Check.INDEX, of(-1), of(4));
        refuses(x, "mend", a -> x.mend(a[0]), Check.STATE, of(0), of(3));
        Call prayer = a -> x.prayer(a[0], a[1], a[2], a[3]);
        refuses(x, "prayer", prayer, Check.INDEX, of(-1, 1700, 1, 1), of(4, 1, 99, 99));
        refuses(x, "prayer", prayer, Check.ARGUMENT, of(0, 1699, 1, 1), of(0, 1800, 1, 1), of(0, 1700, 0, 1),
                of(0, 1700, 13, 1), of(0, 1700, 1, 0), of(0, 1700, 1, 6));
        Call mark = a -> x.mark(a[0], a[1], a[2]);
        refuses(x, "mark", mark, Check.INDEX, of(-1, 1700, 1), of(4, 1, 0));
        refuses(x, "mark", mark, Check.ARGUMENT, of(0, 1199, 1), of(0, 1900, 1), of(0, 1700, 0), of(0, 1700, 1000));
    }

    private static void asked(Diarycold x) {
        refuses(x, "can", a -> x.can(a[0], a[1]), Check.INDEX, of(-1, 0), of(1, 0), of(1, 9));
        refuses(x, "can", a -> x.can(a[0], a[1]), Check.ARGUMENT, of(0, -1), of(0, 3));
        refuses(x, "ofBook", a -> x.ofBook(a[0], a[1]), Check.INDEX, of(-1, 0), of(2, 0), of(2, 9));
        refuses(x, "ofBook", a -> x.ofBook(a[0], a[1]), Check.ARGUMENT, of(0, -1), of(0, 8));
        refuses(x, "means", a -> x.means(a[0], a[1]), Check.ARGUMENT, of(-1, 1700), of(8, 1700), of(0, 1199),
                of(0, 1901));
        refuses(x, "ofLine", a -> x.ofLine(a[0], a[1]), Check.INDEX, of(-1, 0), of(1, 0), of(1, 9));
        refuses(x, "ofLine", a -> x.ofLine(a[0], a[1]), Check.ARGUMENT, of(0, -1), of(0, 6));
        Call degree = a -> x.degree(a[0], a[1], a[2], a[3]);
        refuses(x, "degree", degree, Check.INDEX, of(-1, 1700, 1, 0), of(4, 1, 99, 9));
        refuses(x, "degree", degree, Check.ARGUMENT, of(0, 1199, 1, 0), of(0, 1901, 1, 0), of(0, 1700, 0, 0),
                of(0, 1700, 13, 0), of(0, 1700, 1, -1), of(0, 1700, 1, 4));
        Call ofYear = a -> x.ofYear(a[0], a[1], a[2]);
        refuses(x, "ofYear", ofYear, Check.INDEX, of(-1, 1700, 0), of(4, 1, 9));
        refuses(x, "ofYear", ofYear, Check.ARGUMENT, of(0, 1699, 0), of(0, 1800, 0), of(0, 1700, -1), of(0, 1700, 5));
        refuses(x, "fit", a -> x.fit(a[0], true), Check.INDEX, of(-1), of(4));
        refuses(x, "heat", a -> x.heat(a[0], a[1]), Check.INDEX, of(-1, 1700), of(4, 1));
        refuses(x, "heat", a -> x.heat(a[0], a[1]), Check.ARGUMENT, of(0, 1699), of(0, 1800));
        refuses(x, "ofBreak", a -> x.ofBreak(a[0], a[1]), Check.INDEX, of(-1, 0), of(4, 9));
        refuses(x, "ofBreak", a -> x.ofBreak(a[0], a[1]), Check.ARGUMENT, of(0, -1), of(0, 3));
        Call drought = a -> x.drought(a[0], a[1], a[2]);
        refuses(x, "drought", drought, Check.INDEX, of(-1, 0, 0), of(4, 999, 9));
        refuses(x, "drought", drought, Check.ARGUMENT, of(0, -1, 0), of(0, 600, 0), of(0, 0, -1), of(0, 0, 4));
        refuses(x, "returns", a -> x.returns(a[0], a[1]), Check.INDEX, of(-1, 1), of(4, 0));
        refuses(x, "returns", a -> x.returns(a[0], a[1]), Check.ARGUMENT, of(0, 0), of(0, 1000));
        refuses(x, "ofTown", a -> x.ofTown(a[0], a[1]), Check.INDEX, of(-1, 0), of(4, 9));
        refuses(x, "ofTown", a -> x.ofTown(a[0], a[1]), Check.ARGUMENT, of(0, -1), of(0, 9));
        refuses(x, "desk", a -> x.desk(a[0]), Check.ARGUMENT, of(-1), of(13));
        refuses(x, "tell", a -> x.tell(a[0]), Check.INDEX, of(-1), of(1), of(LOW), of(HIGH));
        refuses(x, "without", a -> x.without(a[0]), Check.INDEX, of(-1), of(2));
        refuses(x, "test", a -> x.test(a[0], a[1]), Check.INDEX, of(-1, 1700), of(4, 1));
        refuses(x, "test", a -> x.test(a[0], a[1]), Check.ARGUMENT, of(0, 1699), of(0, 1800));
    }

    /** Of several exceptions the one that is named first. */
    private static void order(Diarycold x) {
        Call book = a -> x.book(a[0], a[1], a[2], a[3]);
        refuses(x, "full book", book, Check.INDEX, of(4, 1, 1, -1), of(0, 1700, 1710, 8), of(0, 1, 1, -2));
        refuses(x, "full book", book, Check.ARGUMENT, of(0, 1, 1, -1));
        refuses(x, "full book", book, Check.STATE, of(0, 1700, 1710, 7));
        refuses(x, "full meaning", a -> x.meaning(a[0], 1700, 0), Check.ARGUMENT, of(8));
        refuses(x, "full meaning", a -> x.meaning(a[0], 1700, 0), Check.STATE, of(7));
        Call line = a -> x.line(a[0], 0, 0, 1700, a[1], 1, 0);
        refuses(x, "full line", line, Check.INDEX, of(8, 0));
        refuses(x, "full line", line, Check.ARGUMENT, of(7, 0));
        refuses(x, "full line", line, Check.STATE, of(7, 1));
        Call law = a -> x.law(a[0], 1700, a[1], 1);
        refuses(x, "full law", law, Check.INDEX, of(4, 1));
        refuses(x, "full law", law, Check.ARGUMENT, of(0, 1));
        refuses(x, "full law", law, Check.STATE, of(0, 1700));
        Call mark = a -> x.mark(a[0], a[1], 1);
        refuses(x, "full mark", mark, Check.INDEX, of(4, 1));
        refuses(x, "full mark", mark, Check.ARGUMENT, of(0, 1));
        refuses(x, "full mark", mark, Check.STATE, of(0, 1700));
    }

    /** Whatever the arguments: an answer, or one of the three exceptions of the document itself. */
    private static void everyKind(Supplier<Diarycold> maker) {
        int[] values = {LOW, LOW + 1, -1000, -1, 0, 1, 2, 3, 5, 12, 100, 300, 1200, 1700, 1799, 1899, 1900, 500000, HIGH};
        java.util.Random random = new java.util.Random(7);
        java.util.Set<Object> kinds = new java.util.TreeSet<>();
        java.util.List<java.lang.reflect.Method> calls = new java.util.ArrayList<>();
        for (java.lang.reflect.Method method : Diarycold.class.getDeclaredMethods()) {
            if (java.lang.reflect.Modifier.isPublic(method.getModifiers())) {
                calls.add(method);
            }
        }
        calls.sort(java.util.Comparator.comparing(java.lang.reflect.Method::getName));
        for (java.lang.reflect.Method method : calls) {
            Diarycold x = maker.get();
            for (int round = 0; round < 3000; round++) {
                x = round % 400 == 0 ? maker.get() : x;
                Object[] arguments = new Object[method.getParameterCount()];
                for (int i = 0; i < arguments.length; i++) {
                    boolean isFlag = method.getParameterTypes()[i] == boolean.class;
                    arguments[i] = isFlag ? (Object) random.nextBoolean() : values[random.nextInt(values.length)];
                }
                kinds.add(kindOf(x, method, arguments));
            }
        }
        kinds.removeAll(java.util.List.of("answer", "IllegalArgumentException", "IllegalStateException",
                "IndexOutOfBoundsException"));
        Check.due("other exceptions", kinds.toString(), "[]");
    }

    private static String kindOf(Diarycold x, java.lang.reflect.Method method, Object[] arguments) {
        try {
            method.invoke(x, arguments);
            return "answer";
        } catch (java.lang.reflect.InvocationTargetException thrown) {
            // The first frame of an exception that the program throws itself is the program's.
            String where = thrown.getCause().getStackTrace()[0].getClassName();
            String kind = thrown.getCause().getClass().getSimpleName();
            return where.startsWith("Diarycold") ? kind : kind + " of " + where;
        } catch (IllegalAccessException closed) {
            return closed.toString();
        }
    }
}
