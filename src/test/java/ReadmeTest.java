import java.io.ByteArrayOutputStream;
import java.io.IOException;
import java.io.PrintStream;
import java.nio.file.Files;
import java.nio.file.Path;
import java.util.List;

/** The example in README.md stands below, line by line, and prints what README.md says. */
public final class ReadmeTest {
    private static void example() {
        Diarycold archive = new Diarycold();

        // Books, what words mean, and lines with dates.
        int diary = archive.book(0, 1690, 1720, -1);             // of town 0, 1690 to 1720, copied from none
        int copy = archive.book(0, 1730, 1740, diary);           // copied from that diary
        archive.meaning(5, 1600, -3);                            // from 1600 on the word 5 means -3
        archive.meaning(6, 1600, 2);
        int cold = archive.line(diary, 0, 1, 1700, 1, 5, 5);     // old calendar, the year begins on 25 March
        int again = archive.line(copy, 1, 0, 1701, 1, 30, 6);    // new calendar, from 1 January on
        int spring = archive.line(diary, 0, 2, 1700, 4, 10, 6);  // old calendar, the year begins at Easter
        System.out.println(archive.tell(cold));
        System.out.println(archive.tell(again));
        System.out.println(archive.tell(spring));
        System.out.println(archive.degree(0, 1701, 1, 0));       // the index of January 1701: by the diary alone
        System.out.println(archive.without(diary));              // how many months the diary makes another one

        // Harvests and readings, and the line through them.
        for (int i = 0; i < 4; i++) {
            archive.harvest(0, 1700 + i, 250 + 10 * i);
            archive.reading(0, 1700 + i, 110 - 10 * i);
            archive.reading(1, 1700 + i, i < 2 ? 40 : 90);
        }
        archive.law(0, 1703, 1703, 5);                           // it made the harvest of 1703 later by 5 days
        System.out.println(archive.fit(0, false));               // the slope
        archive.leaveOut(0, 1703, true);
        System.out.println(archive.heat(0, 1703));               // by the other three years
        System.out.println(archive.ofBreak(1, 0));               // the year from which on town 1 reads otherwise
        System.out.println(archive.mend(1));                     // by how much its readings before that are more now

        // Prayers for rain, and marks of floods.
        archive.prayer(0, 1712, 12, 2);
        archive.prayer(0, 1713, 1, 4);
        archive.mark(0, 1800, 350);
        System.out.println(archive.drought(0, 0, 1));            // months of the first drought
        System.out.println(archive.returns(0, 350));             // years between floods so high
    }

    public static void main(String[] args) throws IOException {
        String readme = Files.readString(Path.of("README.md"));
        String here = Files.readString(Path.of("src/test/java/ReadmeTest.java"));
        Check.due("the example stands here", here.contains(indented(block(readme, "java"))), true);
        Check.due("what the example prints", printed(), block(readme, "text"));
        Check.end();
    }

    /** The lines of the first block of that kind. */
    private static String block(String text, String kind) {
        List<String> lines = text.lines().toList();
        int from = lines.indexOf("```" + kind) + 1;
        int many = lines.subList(from, lines.size()).indexOf("```");
        return String.join("\n", lines.subList(from, from + many)) + "\n";
    }

    private static String indented(String text) {
        return text.replaceAll("(?m)^(?=.)", "        ");
    }

    private static String printed() {
        PrintStream screen = System.out;
        ByteArrayOutputStream lines = new ByteArrayOutputStream();
        System.setOut(new PrintStream(lines));
        example();
        System.out.flush();
        System.setOut(screen);
        return lines.toString().replace(System.lineSeparator(), "\n");
    }
}
