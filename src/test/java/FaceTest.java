import java.lang.reflect.Constructor;
import java.lang.reflect.Executable;
import java.lang.reflect.Field;
import java.lang.reflect.Member;
import java.lang.reflect.Method;
import java.lang.reflect.Modifier;
import java.nio.charset.StandardCharsets;
import java.nio.file.Files;
import java.nio.file.Path;
import java.util.Arrays;
import java.util.Set;
import java.util.TreeSet;
import java.util.regex.Matcher;
import java.util.regex.Pattern;

/** The public face is the document's, and the source keeps to what a look can tell of LANGUAGE.md. */
public final class FaceTest {
    private static final String[] FACE = {
        "int picture(int,int,int)", "int paint(int,int,int,int)", "int noise(int,int)", "int shade(int,int,int)",
        "int pixel(int,int,int)", "int of(int,int)", "int many(int,int)", "int common(int,int)", "long mean(int,int,int)",
        "int box(int,int,int,int)", "int entry(int,int)", "int drop(int,int)", "int change(int,int,int)",
        "int lock(int,int,boolean)", "int told(int,int,int)", "int feed(int)", "int read(int)", "int cut(int,int,int)",
        "int refine(int,int,int)", "int rule(int,int)", "int far(int,int)", "int nearest(int,int)", "int near(int,int,int)",
        "int make(int,int,int)", "int sheet(int,int,int)", "long sum(int)", "int used(int)", "int taken(int)",
        "int best(int,int,int)", "int see(int,int,int)", "int fits(int,int,int)", "long odds(int,int,int)",
        "int spared(int,int,int)", "int plan(int,int)", "int ends(int)", "int book(int,int)", "int looked()",
        "int judge(int,int)", "int image()", "int undo()", "int count(int)", "int tape(int,int,int)", "int item(int,int,long)",
        "long peek(int,int)", "int twin(int,int)", "int shift(int,int,int,int,int)"};

    private static final String[] OUTSIDE = {"import ", "package ", "->", "::", "catch", " try {", "throw", "finally",
        "synchronized", "assert", "Exact", "double", "Object", "instanceof", " class DitherDesk extends", "System.", "hashCode"};

    private static final Due due = new Due("FaceTest");

    public static void main(String[] args) throws Exception {
        constants();
        face();
        inside();
        source();
        promises();
        due.close();
    }

    private static void constants() {
        due.is("NONE", DitherDesk.NONE, -1);
        due.is("BAD", DitherDesk.BAD, -2);
        due.is("STATE", DitherDesk.STATE, -3);
        due.is("FULL", DitherDesk.FULL, -4);
        due.is("NO", DitherDesk.NO, Long.MIN_VALUE);
    }

    private static void face() {
        Set<String> due46 = new TreeSet<>(Arrays.asList(FACE));
        Set<String> found = new TreeSet<>();
        for (Method m : DitherDesk.class.getDeclaredMethods()) {
            if (!Modifier.isPrivate(m.getModifiers())) {
                StringBuilder told = new StringBuilder(m.getReturnType() + " " + m.getName() + "(");
                for (Class<?> type : m.getParameterTypes()) {
                    told.append(told.charAt(told.length() - 1) == '(' ? "" : ",").append(type);
                }
                found.add(told.append(')').toString());
                due.holds(m + " is public and of the object", m.getModifiers() == Modifier.PUBLIC);
            }
        }
        due.holds("the methods are the face's: " + found, found.equals(due46));
        due.is("methods", FACE.length, 46);
        for (Field f : DitherDesk.class.getDeclaredFields()) {
            boolean isTold = Set.of("NONE", "BAD", "STATE", "FULL", "NO").contains(f.getName());
            due.holds(f + " is private or told", isTold == Modifier.isPublic(f.getModifiers())
                && (isTold || Modifier.isPrivate(f.getModifiers())));
        }
        Constructor<?>[] made = DitherDesk.class.getDeclaredConstructors();
        due.holds("one constructor", made.length == 1 && made[0].getParameterCount() == 0
            && made[0].getModifiers() == Modifier.PUBLIC);
        due.holds("public and final", DitherDesk.class.getModifiers() == (Modifier.PUBLIC | Modifier.FINAL));
    }

    private static void inside() {
        Set<String> names = new TreeSet<>();
        for (String told : FACE) {
            names.add(told.substring(told.indexOf(' ') + 1, told.indexOf('(')));
        }
        Class<?>[] inner = DitherDesk.class.getDeclaredClasses();
        due.holds("some twelve classes", inner.length <= 11);
        for (Class<?> c : inner) {
            due.holds(c + " is static and not public", Modifier.isStatic(c.getModifiers())
                && (c.getModifiers() & (Modifier.PUBLIC | Modifier.PROTECTED)) == 0);
            looksWell(c, names);
        }
        looksWell(DitherDesk.class, names);
    }

    private static void looksWell(Class<?> c, Set<String> names) {
        int fields = 0;
        for (Field f : c.getDeclaredFields()) {
            boolean isStatic = Modifier.isStatic(f.getModifiers());
            due.holds(f + ": static ones are final", !isStatic || Modifier.isFinal(f.getModifiers()));
            due.holds(f + ": static ones are plain", !isStatic || Set.of(int.class, long.class, int[].class).contains(f.getType()));
            fields += isStatic ? 0 : 1;
        }
        due.holds(c + " has some twenty fields", fields <= 20);
        for (Executable m : c.getDeclaredMethods()) {
            due.holds(m + ": seven parameters at most", m.getParameterCount() <= 7);
            due.holds(m + ": no name of the face", isOfFace(m) || !names.contains(m.getName()));
        }
    }

    /** Rule 4: of Math and its like no more than functions that are listed; NO's number is the document's own. */
    private static void library(String text) {
        String own = text.replace("public static final long NO = Long.MIN_VALUE;", "");
        Matcher used = Pattern.compile("\\b(Math|Integer|Long|Float|Character|Arrays|Short|Byte|Boolean)\\.(\\w+\\(?)").matcher(own);
        while (used.find()) {
            due.holds("the library has " + used.group(),
                used.group(1).equals("Math") && Set.of("abs(", "min(", "max(").contains(used.group(2)));
        }
    }

    /** Each promise has its own tests, each of them with the document's words. */
    private static void promises() throws Exception {
        for (int promise = 1; promise <= FACE.length + 1; promise++) {
            String name = "Promise" + promise / 10 + promise % 10 + "Test";
            String text = Files.readString(Path.of("src/test/java/promises/" + name + ".java"), StandardCharsets.UTF_8);
            due.holds(name + " runs its own tests", text.contains("runTestsOf(" + name + ".class);"));
            int tests = text.split("\n    @Says\\(\"[^\n]*\"\\)\n    static void ", -1).length - 1;
            int methods = text.split("\n    static void ", -1).length - 1;
            due.is(name + ": tests with the document's words", tests, methods);
        }
    }

    private static boolean isOfFace(Member m) {
        return m.getDeclaringClass() == DitherDesk.class && Modifier.isPublic(m.getModifiers());
    }

    private static void source() throws Exception {
        String text = Files.readString(Path.of("src/main/java/DitherDesk.java"), StandardCharsets.UTF_8);
        for (String word : OUTSIDE) {
            due.holds("the source has no '" + word + "'", !text.contains(word));
        }
        due.holds("only plain signs", text.chars().allMatch(sign -> sign < 128));
        library(text);
        for (String line : text.split("\n")) {
            if (line.contains("new ")) {
                // what is made is made with the desk: the room of all calls is not used up
                boolean isField = line.contains("final ") && line.contains(" = new ");
                boolean isFilling = line.contains("[i] = new ");
                due.holds("made with the desk: " + line.trim(), isField || isFilling || line.trim().startsWith("*"));
            }
        }
    }
}
