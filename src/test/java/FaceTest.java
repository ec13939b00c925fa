import java.io.IOException;
import java.lang.reflect.Constructor;
import java.lang.reflect.Field;
import java.lang.reflect.Method;
import java.lang.reflect.Modifier;
import java.nio.file.Files;
import java.nio.file.Path;
import java.util.TreeSet;
import java.util.regex.Matcher;
import java.util.regex.Pattern;

/** The public face, NONE, and those rules of LANGUAGE.md that can be seen from the class and its text. */
final class FaceTest {
    private static final Due DUE = new Due("FaceTest");
    private static final String INDEX = "IndexOutOfBoundsException";
    private static final String ARGUMENT = "IllegalArgumentException";
    private static final String STATE = "IllegalStateException";

    private static final String[] FACE = {
        "int addBlock(int,int,int,int) " + ARGUMENT + " " + STATE,
        "int setCap(int,int) " + INDEX + " " + ARGUMENT,
        "int setLimit(int,int) " + INDEX + " " + ARGUMENT,
        "int setShip(int,int) " + ARGUMENT,
        "int pull(int) " + INDEX + " " + STATE,
        "int put(int) " + INDEX + " " + STATE,
        "int cascade()",
        "int shave()",
        "int block(int,int) " + INDEX + " " + ARGUMENT,
        "int value(int) " + ARGUMENT,
        "long balance(int) " + ARGUMENT,
        "double tilt()",
        "int loadWithout(int,int) " + INDEX,
        "int pullable()",
        "int cascadeSteps()",
        "boolean survives()",
        "int shavingSteps()",
        "int greatestWeight()",
        "int bestCenter()",
        "int bestPlace(int) " + ARGUMENT,
        "int append(int) " + ARGUMENT + " " + STATE,
        "int clearText()",
        "int parse()",
        "int undo() " + STATE,
        "long digest()",
    };

    public static void main(String[] args) throws IOException {
        face();
        nothingElseIsOpen();
        text();
        DUE.end();
    }

    private static String told(Method method) {
        StringBuilder row = new StringBuilder();
        row.append(method.getReturnType().getSimpleName()).append(' ').append(method.getName()).append('(');
        Class<?>[] types = method.getParameterTypes();
        for (int i = 0; i < types.length; i++) {
            row.append(i == 0 ? "" : ",").append(types[i].getSimpleName());
        }
        row.append(')');
        for (Class<?> thrown : method.getExceptionTypes()) {
            row.append(' ').append(thrown.getSimpleName());
        }
        return row.toString();
    }

    private static void face() {
        DUE.is("NONE", KeelBlocks.NONE, -1);
        DUE.is("class", Modifier.toString(KeelBlocks.class.getModifiers()), "public final");
        DUE.is("constructors", KeelBlocks.class.getDeclaredConstructors().length, 1);
        Constructor<?> constructor = KeelBlocks.class.getDeclaredConstructors()[0];
        DUE.is("constructor", constructor.toString(), "public KeelBlocks()");
        TreeSet<String> got = new TreeSet<>();
        for (Method method : KeelBlocks.class.getDeclaredMethods()) {
            if (Modifier.isPublic(method.getModifiers())) {
                DUE.is(method.getName(), Modifier.toString(method.getModifiers()), "public");
                got.add(told(method));
            }
        }
        DUE.is("methods", got.toString(), new TreeSet<>(java.util.List.of(FACE)).toString());
    }

    private static void nothingElseIsOpen() {
        for (Field field : KeelBlocks.class.getDeclaredFields()) {
            int open = Modifier.PUBLIC | Modifier.PROTECTED | Modifier.PRIVATE;
            DUE.is("field " + field.getName(), field.getModifiers() & open,
                    field.getName().equals("NONE") ? Modifier.PUBLIC : Modifier.PRIVATE);
            boolean shared = Modifier.isStatic(field.getModifiers()) && !Modifier.isFinal(field.getModifiers());
            DUE.is("static state in " + field.getName(), shared, false);
        }
        TreeSet<String> names = new TreeSet<>();
        for (String method : FACE) {
            names.add(method.substring(method.indexOf(' ') + 1, method.indexOf('(')));
        }
        for (Method method : KeelBlocks.class.getDeclaredMethods()) {
            if (!Modifier.isPublic(method.getModifiers())) {
                DUE.is(method.getName(), Modifier.isPrivate(method.getModifiers()), true);
                DUE.is(method.getName() + " is a public name", names.contains(method.getName()), false);
            }
        }
        for (Class<?> inside : KeelBlocks.class.getDeclaredClasses()) {
            DUE.is(inside.getName(), inside.getModifiers() & (Modifier.PUBLIC | Modifier.PROTECTED), 0);
        }
    }

    /** Words that the rules leave no room for, and the calls of the library that they list. */
    private static void text() throws IOException {
        String program = Files.readString(Path.of("src/main/java/KeelBlocks.java"));
        String code = program.replaceAll("(?s)/\\*.*?\\*/", "").replaceAll("//[^\n]*", "");
        String[] foreign = {"package", "finally", "synchronized", "assert", "native", "volatile", "transient",
            "StrictMath", "Random", "Thread", "hashCode", "getMessage", "printStackTrace"};
        for (String word : foreign) {
            DUE.is(word + " in the program", Pattern.compile("\\b" + word + "\\b").matcher(code).find(), false);
        }
        DUE.is("a method reference in the program", code.contains("::"), false);
        String[] listed = {"(Math|Integer|Long)\\.(compare|max|min|abs|signum|bitCount|floorDiv|floorMod)",
            "System\\.arraycopy", "Arrays\\.(copyOf|copyOfRange|fill)"};
        Matcher library = Pattern.compile("\\b(Math|Integer|Long|System|Arrays)\\.\\w+").matcher(code);
        while (library.find()) {
            DUE.is(library.group() + " is listed", library.group().matches(String.join("|", listed)), true);
        }
        Pattern written = Pattern.compile("new (IllegalState|IllegalArgument|IndexOutOfBounds)Exception"
                + "\\((\"[^\"]*\")?\\)");
        Matcher thrown = Pattern.compile("throw ([^;]*);").matcher(code);
        while (thrown.find()) {
            DUE.is(thrown.group(), written.matcher(thrown.group(1)).matches(), true);
        }
        String machine = "ArrayIndexOutOfBounds|NullPointer|ClassCast|NegativeArraySize|ArrayStore|Throwable|Runtime";
        Matcher caught = Pattern.compile("catch \\(([^)]*)\\)").matcher(code);
        while (caught.find()) {
            DUE.is(caught.group(), Pattern.compile(machine).matcher(caught.group()).find(), false);
        }
        for (char sign : program.toCharArray()) {
            if (sign > 127) {
                DUE.is("a sign", sign, 127);
            }
        }
    }

    private FaceTest() {
    }
}
