import java.io.IOException;
import java.lang.reflect.Constructor;
import java.lang.reflect.Field;
import java.lang.reflect.Method;
import java.lang.reflect.Modifier;
import java.nio.file.Files;
import java.nio.file.Path;
import java.util.ArrayList;
import java.util.Arrays;
import java.util.List;
import java.util.Set;
import java.util.TreeSet;
import java.util.regex.Pattern;

/** The public face is the document's, and the source keeps to those rules of LANGUAGE.md that show. */
public final class LanguageTest {
    private static final String I = "IndexOutOfBoundsException";
    private static final String S = "IllegalStateException";
    private static final String A = "IllegalArgumentException";
    private static final Set<String> FACE = Set.of(
            "int feed(int,int,int,int,int) UnsupportedOperationException",
            "void end(int) " + A,
            "void connect(int,int,int,int,int,int) " + I + "," + A,
            "void send(int) " + I + "," + S + "," + A,
            "int frame(int,int) " + I + "," + S + "," + A,
            "void spoil(int) " + A,
            "int round() ",
            "int rounds(int) " + A,
            "int latest(int) " + A,
            "int node(int,int) " + I + "," + A,
            "boolean restart(int) " + I,
            "int about(int,int) " + I + "," + A,
            "int byteAt(int,int) " + I,
            "int coded(int) " + A,
            "int bit(int) " + I);
    private static final String[] FORBIDDEN = {
        "->", "::", "\\bimport\\b", "\\bpackage\\b", "\\btry\\b", "\\bcatch\\b", "\\bfinally\\b",
        "\\bsynchronized\\b", "\\bassert\\b", "\\bequals\\b", "\\bhashCode\\b", "\\btoString\\b",
        "\\bprotected\\b", "\\bfloat\\b", "\\bdouble\\b", "\\bwhile \\(true\\)", "for \\(;;",
        "\\bSystem\\.(?!arraycopy)", "Exact\\("};

    private LanguageTest() {
    }

    public static void main(String[] args) throws IOException, NoSuchFieldException {
        theFaceIsTheDocuments();
        theConstantIsTheDocuments();
        nothingElseIsVisible();
        classesInsideArePrivateAndStatic();
        theSourceHasNothingForbidden();
        Check.finish();
    }

    private static String names(Class<?>[] classes) {
        List<String> names = new ArrayList<>();
        for (Class<?> each : classes) {
            names.add(each.getSimpleName());
        }
        return String.join(",", names);
    }

    private static void theFaceIsTheDocuments() {
        Set<String> face = new TreeSet<>();
        for (Method method : StuffedBus.class.getDeclaredMethods()) {
            if (!Modifier.isPrivate(method.getModifiers())) {
                Check.isTrue(method + " is public and no more", method.getModifiers() == Modifier.PUBLIC);
                face.add(method.getReturnType().getSimpleName() + " " + method.getName() + "("
                        + names(method.getParameterTypes()) + ") " + names(method.getExceptionTypes()));
            }
        }
        Check.isTrue("the face " + face, face.equals(FACE));
        Check.isTrue("public and final",
                StuffedBus.class.getModifiers() == (Modifier.PUBLIC | Modifier.FINAL));
        Constructor<?>[] constructors = StuffedBus.class.getDeclaredConstructors();
        Check.equal("constructors", constructors.length, 1);
        Check.equal("its parameters", constructors[0].getParameterCount(), 0);
        Check.equal("it is public", constructors[0].getModifiers(), Modifier.PUBLIC);
    }

    private static void theConstantIsTheDocuments() throws NoSuchFieldException {
        Field none = StuffedBus.class.getDeclaredField("NONE");
        Check.isTrue("NONE is an int", none.getType() == int.class);
        Check.equal("it is public", none.getModifiers(), Modifier.PUBLIC | Modifier.STATIC | Modifier.FINAL);
        Check.equal("its value", StuffedBus.NONE, -1);
    }

    private static void nothingElseIsVisible() {
        for (Field field : StuffedBus.class.getDeclaredFields()) {
            boolean constant = field.getName().equals("NONE");
            Check.isTrue(field.getName(), constant || Modifier.isPrivate(field.getModifiers()));
            Check.isTrue(field.getName(), !Modifier.isStatic(field.getModifiers())
                    || Modifier.isFinal(field.getModifiers()));
        }
        Set<String> open = new TreeSet<>();
        for (String method : FACE) {
            open.add(method.substring(method.indexOf(' ') + 1, method.indexOf('(')));
        }
        List<Class<?>> all = new ArrayList<>(Arrays.asList(StuffedBus.class.getDeclaredClasses()));
        all.add(StuffedBus.class);
        for (Class<?> each : all) {
            for (Method method : each.getDeclaredMethods()) {
                Check.isTrue(method + " bears a name of the face",
                        Modifier.isPublic(method.getModifiers()) || !open.contains(method.getName()));
                Check.isTrue(method + " has few parameters", method.getParameterCount() <= 7);
            }
        }
    }

    private static void classesInsideArePrivateAndStatic() {
        Class<?>[] inside = StuffedBus.class.getDeclaredClasses();
        Check.isTrue("few classes", inside.length <= 11);
        for (Class<?> each : inside) {
            Check.isTrue(each + " is private", Modifier.isPrivate(each.getModifiers()));
            Check.isTrue(each + " is static", Modifier.isStatic(each.getModifiers()));
            Check.isTrue(each + " has few fields", each.getDeclaredFields().length <= 20);
        }
    }

    private static void theSourceHasNothingForbidden() throws IOException {
        String source = Files.readString(Path.of("src/main/java/StuffedBus.java"));
        for (String forbidden : FORBIDDEN) {
            Check.isTrue("the source has " + forbidden, !Pattern.compile(forbidden).matcher(source).find());
        }
        // Rows are made in constructors alone, so that no call takes room.
        for (String line : source.split("\n")) {
            boolean makes = line.contains("new ") && !line.contains("throw new ");
            Check.isTrue("made by a call: " + line, !makes || line.contains(" = new "));
        }
    }
}
