import java.io.IOException;
import java.lang.reflect.InvocationTargetException;
import java.lang.reflect.Method;
import java.nio.charset.StandardCharsets;
import java.nio.file.Files;
import java.nio.file.Path;
import java.util.Arrays;
import java.util.Comparator;

/** What the tests of one promise have in common; each method with {@link Says} is one test. */
abstract class Promise {
    static final int NONE = -1, BAD = -2, STATE = -3, FULL = -4, NEVER = -5;
    static final int NOTHING = -11, CAST = -12, PLACE = -13, SIZE = -14;
    static final long NO = Long.MIN_VALUE;
    static final int MIN = Integer.MIN_VALUE, MAX = Integer.MAX_VALUE;
    static final int WHITE = 262143;

    private static int looked;
    private static int wrong;

    static void is(long got, long due) {
        looked++;
        if (got != due) {
            wrong++;
            System.out.println("  " + caller() + ": answered " + got + ", due is " + due);
        }
    }

    static int red(int v) {
        return Due.rgb(v, 0, 0);
    }

    static int green(int v) {
        return Due.rgb(0, v, 0);
    }

    static int grey(int v) {
        return Due.rgb(v, v, v);
    }

    /** A desk with WORK spent to a number (picture 3 is 1 by 1 then, palette 3 has entry 0). */
    static DitherDesk worked(int work) {
        DitherDesk x = new DitherDesk();
        Due.spend(x, work);
        is(x.count(6), work);
        return x;
    }

    static void entriesAre(DitherDesk x, int palette, int... colours) {
        for (int e = 0; e < colours.length; e++) {
            is(x.told(palette, e, 0), colours[e]);
        }
        is(x.told(palette, colours.length, 0), NONE);
    }

    static void pixelsAre(DitherDesk x, int picture, int... colours) {
        int wide = x.of(picture, 0);
        is(wide * x.of(picture, 1), colours.length);
        for (int p = 0; p < colours.length && wide > 0; p++) {
            is(x.pixel(picture, p % wide, p / wide), colours[p]);
        }
    }

    /** The entries of the sheet's pixels, row by row. */
    static void sheetIs(DitherDesk x, int... entries) {
        int wide = (int) x.sum(14);
        is(wide * x.sum(15), entries.length);
        for (int p = 0; p < entries.length && wide > 0; p++) {
            is(x.sheet(p % wide, p / wide, 0), entries[p]);
        }
    }

    static void tapeIs(DitherDesk x, int tape, int... items) {
        for (int i = 0; i < items.length; i++) {
            is(x.peek(tape, i), items[i]);
        }
        is(x.peek(tape, items.length), NO);
    }

    static void tapeOf(DitherDesk x, int tape, int sort, int... items) {
        x.tape(tape, sort, items.length);
        for (int i = 0; i < items.length; i++) {
            x.item(tape, i, items[i]);
        }
    }

    static void runTestsOf(Class<? extends Promise> promise) {
        String document = documentOnOneLine();
        int ran = 0;
        int failed = 0;
        Method[] methods = promise.getDeclaredMethods();
        Arrays.sort(methods, Comparator.comparing(Method::getName));
        for (Method test : methods) {
            Says says = test.getAnnotation(Says.class);
            if (says == null) {
                continue;
            }
            ran++;
            if (!isPassed(test) || !isSaid(document, says.value())) {
                failed++;
                System.out.println("FAIL " + promise.getName() + "." + test.getName() + ": \"" + says.value() + "\"");
            }
        }
        System.out.println(promise.getName() + ": " + ran + " tests, " + failed + " failed");
        if (failed > 0 || ran == 0) {
            System.exit(1);
        }
    }

    private static boolean isPassed(Method test) {
        looked = 0;
        wrong = 0;
        try {
            test.invoke(null);
        } catch (InvocationTargetException e) {
            System.out.println("  " + test.getName() + " threw " + e.getCause());
            return false;
        } catch (IllegalAccessException e) {
            System.out.println("  " + test.getName() + " is private");
            return false;
        }
        return wrong == 0 && looked > 0;
    }

    private static boolean isSaid(String document, String words) {
        if (document.contains(words)) {
            return true;
        }
        System.out.println("  the document does not say so");
        return false;
    }

    private static String documentOnOneLine() {
        try {
            return Files.readString(Path.of("../shared/DOC.md"), StandardCharsets.UTF_8).replaceAll("\\s+", " ");
        } catch (IOException e) {
            return "";
        }
    }

    /** File and line of the test that asked. */
    private static String caller() {
        return StackWalker.getInstance().walk(frames -> frames
            .filter(frame -> !frame.getClassName().equals("Promise")).findFirst()
            .map(frame -> frame.getFileName() + ":" + frame.getLineNumber()).orElse("?"));
    }
}
