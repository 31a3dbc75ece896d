import java.util.ArrayList;
import java.util.Arrays;
import java.util.List;
import java.util.Map;
import java.util.Objects;
import java.util.TreeMap;
import java.util.function.Function;
import java.util.function.Supplier;

/**
 * All that an archive answers, so that two archives can be told apart by whatever is held in them. An
 * archive is used for 512 calls alone, so each lot of questions is asked of a new one made the same way.
 */
final class Answers {
    private static final int LOT = 512 - Archives.CALLS - 1;
    private static final List<Question> QUESTIONS = new ArrayList<>();

    private record Question(String name, Function<Diarycold, Object> call) {
    }

    private final List<Object> answers = new ArrayList<>();

    static {
        counts();
        for (int book = 0; book < 8; book++) {
            ofBook(book);
        }
        for (int line = 0; line < 40; line++) {
            ofLine(line);
        }
        for (int town = 0; town < 4; town++) {
            ofTown(town);
            for (int year = 1700; year <= 1799; year++) {
                ofYear(town, year);
            }
        }
        for (int word = 0; word < 8; word++) {
            means(word);
        }
    }

    /** What archives answer that are made in this way. */
    Answers(Supplier<Diarycold> maker) {
        Diarycold x = maker.get();
        for (int i = 0; i < QUESTIONS.size(); i++) {
            if (i > 0 && i % LOT == 0) {
                x = maker.get();
            }
            Diarycold asked = x;
            Question question = QUESTIONS.get(i);
            answers.add(Check.answer(() -> question.call.apply(asked)));
        }
    }

    boolean areAlso(Answers others) {
        return Objects.equals(answers, others.answers);
    }

    /** What answers otherwise there, by the name of the question, as "3 -> 4". */
    Map<String, String> changesTo(Answers later) {
        Map<String, String> changes = new TreeMap<>();
        for (int i = 0; i < QUESTIONS.size(); i++) {
            if (!answers.get(i).equals(later.answers.get(i))) {
                changes.put(QUESTIONS.get(i).name, answers.get(i) + " -> " + later.answers.get(i));
            }
        }
        return changes;
    }

    private static void ask(String name, Function<Diarycold, Object> call, Object... arguments) {
        String told = Arrays.toString(arguments);
        QUESTIONS.add(new Question(name + "(" + told.substring(1, told.length() - 1) + ")", call));
    }

    private static void counts() {
        for (int i = 0; i <= 12; i++) {
            int what = i;
            ask("desk", x -> x.desk(what), what);
        }
        ask("isSound", Diarycold::isSound);
        ask("digest", Diarycold::digest);
    }

    private static void ofBook(int book) {
        for (int i = 0; i <= 7; i++) {
            int what = i;
            ask("ofBook", x -> x.ofBook(book, what), book, what);
        }
        ask("without", x -> x.without(book), book);
    }

    private static void ofLine(int line) {
        for (int i = 0; i <= 5; i++) {
            int what = i;
            ask("ofLine", x -> x.ofLine(line, what), line, what);
        }
        ask("tell", x -> x.tell(line), line);
        ask("can", x -> x.can(line, 0), line, 0);
        ask("can", x -> x.can(line, 1), line, 1);
    }

    private static void ofTown(int town) {
        for (int i = 0; i <= 8; i++) {
            int what = i;
            ask("ofTown", x -> x.ofTown(town, what), town, what);
        }
        for (int i = 0; i <= 2; i++) {
            int what = i;
            ask("ofBreak", x -> x.ofBreak(town, what), town, what);
        }
        ask("fit", x -> x.fit(town, true), town, true);
        ask("fit", x -> x.fit(town, false), town, false);
        for (int i = 0; i < 12; i++) {
            int nth = i / 4;
            int what = i % 4;
            ask("drought", x -> x.drought(town, nth, what), town, nth, what);
        }
        for (int i = 1; i <= 999; i += 49) {
            int height = i;
            ask("returns", x -> x.returns(town, height), town, height);
        }
        int[] years = {1200, 1700, 1705, 1706, 1711, 1712, 1750, 1800, 1899, 1900};
        for (int i = 0; i < years.length * 12 * 4; i++) {
            int year = years[i / 48];
            int month = i / 4 % 12 + 1;
            int what = i % 4;
            ask("degree", x -> x.degree(town, year, month, what), town, year, month, what);
        }
    }

    private static void ofYear(int town, int year) {
        for (int i = 0; i <= 4; i++) {
            int what = i;
            ask("ofYear", x -> x.ofYear(town, year, what), town, year, what);
        }
        ask("heat", x -> x.heat(town, year), town, year);
        ask("test", x -> x.test(town, year), town, year);
    }

    private static void means(int word) {
        int[] years = {1200, 1201, 1599, 1600, 1699, 1700, 1707, 1708, 1715, 1799, 1800, 1899, 1900};
        for (int asked : years) {
            ask("means", x -> x.means(word, asked), word, asked);
        }
    }
}
