import java.io.IOException;
import java.lang.reflect.Constructor;
import java.lang.reflect.Field;
import java.lang.reflect.Method;
import java.lang.reflect.Modifier;
import java.nio.file.Files;
import java.nio.file.Path;
import java.util.NoSuchElementException;
import java.util.Set;
import java.util.TreeSet;
import java.util.regex.Matcher;
import java.util.regex.Pattern;

/** The public face, and those rules of LANGUAGE.md that can be seen in the class and its text. */
public final class FaceTest {
    private static final String FACE = "feed/5 end/1 duchy/0 fault/0 person/2 skill/2 deed/2 now/1 does/3 wed/2 part/1 "
            + "glove/1 bare/1 days/1 undo/0 able/2 parted/0 partedAt/2 fits/0 fitAt/1 test/0 hears/2 guards/0 "
            + "guarding/0 best/0 bestOf/1 earns/1 richest/0 slip/1 byteAt/1 drawn/2 odds/3 book/1 told/1 sentence/0 "
            + "said/1 image/1 restore/1 count/1";
    private static final Set<String> BOOLEANS = Set.of("end", "image", "restore");

    public static void main(String[] args) throws IOException {
        Check check = new Check();
        members(check);
        nestedClasses(check);
        text(check, Files.readString(Path.of("src/main/java/LeftAnswers.java")));
        check.close("FaceTest");
    }

    private static void members(Check check) {
        Set<String> due = new TreeSet<>(Set.of(FACE.split(" ")));
        Set<String> names = new TreeSet<>();
        for (String one : due) {
            names.add(one.substring(0, one.indexOf('/')));
        }
        Set<String> found = new TreeSet<>();
        for (Method m : LeftAnswers.class.getDeclaredMethods()) {
            if (Modifier.isPublic(m.getModifiers())) {
                found.add(m.getName() + "/" + m.getParameterCount());
                boolean isBoolean = m.getReturnType() == boolean.class;
                check.due(m.getName() + " answers a boolean", isBoolean, BOOLEANS.contains(m.getName()));
                boolean isPerson = m.getName().equals("person");
                check.due(m.getName() + " tells that it throws", m.getExceptionTypes().length, isPerson ? 1 : 0);
                for (Class<?> type : m.getExceptionTypes()) {
                    check.due(m.getName() + " throws", type == NoSuchElementException.class, true);
                }
                for (Class<?> type : m.getParameterTypes()) {
                    check.due(m.getName() + " takes ints", type == int.class, true);
                }
            } else {
                check.due(m.getName() + " is private", Modifier.isPrivate(m.getModifiers()), true);
                check.due(m.getName() + " bears a name of its own", names.contains(m.getName()), false);
            }
        }
        check.due("the methods of the face: " + found, found.equals(due), true);
        for (Field f : LeftAnswers.class.getDeclaredFields()) {
            boolean isNone = f.getName().equals("NONE");
            int publicConstant = Modifier.PUBLIC | Modifier.STATIC | Modifier.FINAL;
            check.due(f.getName() + " is public and constant", f.getModifiers() == publicConstant, isNone);
            check.due(f.getName() + " is private", Modifier.isPrivate(f.getModifiers()), !isNone);
        }
        check.due("NONE", LeftAnswers.NONE, -1);
        Constructor<?>[] makers = LeftAnswers.class.getDeclaredConstructors();
        check.due("constructors", makers.length, 1);
        check.due("it is public", Modifier.isPublic(makers[0].getModifiers()), true);
        check.due("the class is final", Modifier.isFinal(LeftAnswers.class.getModifiers()), true);
    }

    private static void nestedClasses(Check check) {
        check.due("some twelve classes", LeftAnswers.class.getDeclaredClasses().length <= 12, true);
        for (Class<?> inner : LeftAnswers.class.getDeclaredClasses()) {
            check.due(inner + " is private", Modifier.isPrivate(inner.getModifiers()), true);
            check.due(inner + " is static", Modifier.isStatic(inner.getModifiers()), true);
            int fields = 0;
            for (Field f : inner.getDeclaredFields()) {
                boolean isStatic = Modifier.isStatic(f.getModifiers());
                fields += isStatic ? 0 : 1;
                check.due(f + " is final, if static", isStatic && !Modifier.isFinal(f.getModifiers()), false);
            }
            check.due(inner + " has some twenty fields", fields <= 20, true);
            for (Method m : inner.getDeclaredMethods()) {
                check.due(m + " takes at most seven", m.getParameterCount() <= 7, true);
            }
        }
    }

    private static void text(Check check, String text) {
        for (String never : new String[] {"->", "::", "\\bcatch\\b", "\\btry\\b", "\\bfinally\\b", "\\bassert\\b",
            "\\bsynchronized\\b", "\\bstatic \\{", "\\bpackage\\b", "Exact\\(", "\\bdouble\\b", "\\bfloat\\b",
            "\\.ordinal\\(", "\\.hashCode\\(", "\\.toString\\(", "[^\\x00-\\x7f]"}) {
            check.due("the text has no " + never, Pattern.compile(never).matcher(text).find(), false);
        }
        Matcher imports = Pattern.compile("import ([^;]*);").matcher(text);
        while (imports.find()) {
            check.due("import " + imports.group(1), imports.group(1).equals("java.util.NoSuchElementException"), true);
        }
        int inConstructor = 0;
        for (String line : text.split("\n")) {
            if (line.matches(" {4,8}(public )?[A-Z][a-zA-Z]*\\([^)]*\\) \\{")) {
                inConstructor = line.indexOf(line.trim());
            } else if (inConstructor > 0 && line.equals(" ".repeat(inConstructor) + "}")) {
                inConstructor = 0;
            }
            boolean makes = line.matches(".*\\bnew\\b.*") && !line.contains("throw new") && !line.trim().startsWith("/");
            check.due("made by a constructor alone: " + line, makes && inConstructor == 0, false);
        }
    }
}
