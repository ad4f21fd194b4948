import java.io.ByteArrayOutputStream;
import java.io.IOException;
import java.io.PrintStream;
import java.lang.reflect.Method;
import java.lang.reflect.Modifier;
import java.nio.file.Files;
import java.nio.file.Path;
import java.util.ArrayList;
import java.util.List;

/** README's example is the one here, line by line, and prints what it says behind each line that prints. */
public final class ReadmeTest {
    private static final Path README = Path.of("README.md");
    private static final Path THIS = Path.of("src", "test", "java", "ReadmeTest.java");

    private static int wrong = 0;

    public static void main(String[] args) throws IOException {
        List<String> example = between(README, "```java", "```");
        if (!example.equals(between(THIS, "// the example begins", "// the example ends"))) {
            report("the example of README.md is not the one in ReadmeTest.java");
        }
        List<String> due = new ArrayList<>();
        for (String line : example) {
            if (line.startsWith("System.out.println(")) {
                due.add(line.substring(line.lastIndexOf("// ") + 3));
            }
        }
        List<String> got = printed();
        if (due.isEmpty() || !got.equals(due)) {
            report("the example printed " + got + ", README.md says " + due);
        }
        checkCalls(Files.readString(README));
        System.out.println(due.size() + " answers of README.md, " + wrong + " wrong");
        if (wrong != 0) {
            System.exit(1);
        }
    }

    private static void report(String what) {
        wrong++;
        System.out.println(what);
    }

    /** README's table names each call of the face. */
    private static void checkCalls(String text) {
        for (Method method : Mostwell.class.getDeclaredMethods()) {
            boolean isCall = Modifier.isPublic(method.getModifiers());
            if (isCall && !text.contains("`" + method.getName() + "`")) {
                report("README.md does not name " + method.getName());
            }
        }
    }

    private static List<String> between(Path file, String begin, String end) throws IOException {
        List<String> lines = new ArrayList<>();
        boolean inside = false;
        for (String line : Files.readAllLines(file)) {
            String text = line.trim();
            if (inside && text.equals(end)) {
                return lines;
            }
            if (inside) {
                lines.add(text);
            }
            inside |= text.equals(begin);
        }
        report(file + " has no " + begin + " with " + end + " behind it");
        return lines;
    }

    private static List<String> printed() {
        ByteArrayOutputStream bytes = new ByteArrayOutputStream();
        PrintStream before = System.out;
        System.setOut(new PrintStream(bytes, true));
        try {
            example();
        } finally {
            System.setOut(before);
        }
        return bytes.toString().lines().toList();
    }

    private static void example() {
        // the example begins
        Mostwell house = new Mostwell();
        for (int applicant = 0; applicant < 3; applicant++) {
            house.addPost(1);                               // a post with one place
            house.addApplicant(1);                          // an applicant of weight 1
        }
        for (int applicant = 0; applicant < 3; applicant++) {
            for (char sign : "a>b>c".toCharArray()) {       // post 0 before 1 before 2
                house.type(sign);
            }
            house.tell(applicant);
        }
        int[][] rows = {{0, 1, 2}, {2, 0, 1}, {1, 2, 0}};
        for (int[] row : rows) {
            for (int applicant = 0; applicant < 3; applicant++) {
                if (house.postOf(applicant) >= 0) {
                    house.release(applicant);
                }
            }
            for (int applicant = 0; applicant < 3; applicant++) {
                house.assign(applicant, row[applicant]);
            }
            house.keep();
        }
        System.out.println(house.margin(1, 0));             // 1
        System.out.println(house.leadLength(0, 2));         // 2
        System.out.println(house.hasCycle());               // true
        System.out.println(house.worstMargin());            // 1
        System.out.println(house.challenger(0));            // 0
        System.out.println(house.hasPopular());             // false
        house.setRank(2, 0, 2);                             // the list of applicant 2 is c>a=b now
        house.setRank(2, 2, 1);
        System.out.println(house.textAt(2, 0));             // c
        System.out.println(house.hasPopular());             // true
        System.out.println(house.popularPost(2));           // 2
        System.out.println(house.bestProfile(1));           // 2
        System.out.println(house.isSure(2));                // true
        System.out.println(house.countEnvy());              // 4
        // the example ends
    }
}
