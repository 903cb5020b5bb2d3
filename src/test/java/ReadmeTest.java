import java.nio.charset.StandardCharsets;
import java.nio.file.Files;
import java.nio.file.Path;
import java.util.Set;
import java.util.TreeSet;
import java.util.regex.Matcher;
import java.util.regex.Pattern;

/** README.md tells the truth: each answer of its example is the desk's, and it has each call of the face once. */
public final class ReadmeTest {
    private static final Due due = new Due("ReadmeTest");
    private static String readme;
    private static int lines;

    public static void main(String[] args) throws Exception {
        readme = Files.readString(Path.of("README.md"), StandardCharsets.UTF_8);
        example();
        due.is("lines of the example with an answer", answersTold(), lines);
        calls();
        tests();
        due.close();
    }

    private static void example() {
        DitherDesk desk = new DitherDesk();
        told("desk.picture(0, 12, 12);", desk.picture(0, 12, 12));
        told("desk.shade(0, 0, 262143);", desk.shade(0, 0, 262143));
        told("desk.cut(0, 0, 4);", desk.cut(0, 0, 4));
        told("desk.rule(1, 2);", desk.rule(1, 2));
        told("desk.make(0, 0, 1);", desk.make(0, 0, 1));
        told("desk.sheet(11, 0, 0);", desk.sheet(11, 0, 0));
        told("desk.sum(3);", desk.sum(3));
        told("desk.best(0, 0, 0);", desk.best(0, 0, 0));
        told("desk.make(0, 7, 1);", desk.make(0, 7, 1));
        Due.feedAll(desk, "0,0,0>63,63,63:4!;9,0,63");
        told("desk.read(1);", desk.read(1));
        Due.feedAll(desk, "1,2,64");
        told("desk.read(1);", desk.read(1));
        told("desk.image();", desk.image());
        told("desk.drop(1, 0);", desk.drop(1, 0));
        told("desk.undo();", desk.undo());
        told("desk.count(1);", desk.count(1));
    }

    private static void told(String call, long answer) {
        lines++;
        Pattern line = Pattern.compile("(?m)^" + Pattern.quote(call) + " +// " + answer + ":");
        due.holds("README has " + call + " with " + answer, line.matcher(readme).find());
    }

    private static int answersTold() {
        Matcher line = Pattern.compile("(?m)^desk\\.\\w+\\(.*\\); +// -?[0-9]+:").matcher(readme);
        int found = 0;
        while (line.find()) {
            found++;
        }
        return found;
    }

    private static void calls() {
        Set<String> face = new TreeSet<>();
        for (var method : DitherDesk.class.getDeclaredMethods()) {
            if (java.lang.reflect.Modifier.isPublic(method.getModifiers())) {
                face.add(method.getName());
            }
        }
        Set<String> found = new TreeSet<>();
        Matcher row = Pattern.compile("(?m)^\\| `(\\w+)\\(").matcher(readme);
        while (row.find()) {
            due.holds(row.group(1) + " is told once", found.add(row.group(1)));
        }
        due.holds("README's calls are the face's: " + found, found.equals(face));
    }

    private static void tests() throws Exception {
        try (var files = Files.newDirectoryStream(Path.of("src/test/java"), "*Test.java")) {
            for (Path file : files) {
                String name = file.getFileName().toString().replace(".java", "");
                due.holds("README tells of " + name, readme.contains("| " + name + " |"));
            }
        }
    }
}
