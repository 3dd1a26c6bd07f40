import java.io.IOException;
import java.lang.reflect.Constructor;
import java.lang.reflect.Field;
import java.lang.reflect.Method;
import java.lang.reflect.Modifier;
import java.nio.file.Files;
import java.nio.file.Path;
import java.util.List;
import java.util.Set;
import java.util.TreeSet;

/** The public face as the document writes it, and those rules of LANGUAGE.md that can be seen from outside. */
public final class FaceTest {
    private static final String NSE = " NoSuchElementException";
    private static final String IAE = " IllegalArgumentException";
    private static final String ISE = " IllegalStateException";
    private static final String IOE = " IndexOutOfBoundsException";
    private static final List<String> FACE = List.of(
        "int piece(int,int)" + IAE,
        "int way(int,int,int,int,int)" + NSE + IAE,
        "int water(int,int)" + NSE + IAE,
        "int fire(int,int,int,int,int,int)" + NSE + IAE,
        "int fan(int,int,int,int)" + NSE + IAE,
        "int set(int,int,int,int)" + NSE + IAE,
        "int eyes(int)" + IAE,
        "int group(int,int,int)" + NSE + IAE,
        "int walk(int)" + IAE,
        "int door(int,int,int)" + NSE + IAE,
        "boolean make(int,boolean)" + NSE,
        "void gauges(int,int,int)" + IAE,
        "int air(int,int,int,int,int,int)" + NSE + IAE,
        "long smoke(int,int,int,int,int,int,boolean)" + NSE + IAE,
        "long given(int,int,int,int,int,int)" + NSE + IAE,
        "int lost(int,int,int,int,int)" + NSE + IAE,
        "boolean shut(int,int,int,int,int,int)" + NSE + IAE,
        "int out(int,int,int,int,int)" + NSE + IAE,
        "int all(int,int,int,int)" + NSE + IAE,
        "int side(int,int,int,int,int,int)" + NSE + IAE,
        "int worth(int,int,int,int,int,int)" + NSE + IAE + ISE + IOE,
        "int fewest(int,int,int)" + IAE,
        "boolean alike(int,int,int,int)" + NSE + IAE,
        "int regret(int,int,int,int,int)" + NSE + IAE,
        "int turn(int,int,int)" + ISE + IAE,
        "int turnTo(int,int,int,int)" + NSE + IAE,
        "int best(int,int)" + ISE + IAE,
        "int reach(int,int,int,int,int,int)" + NSE + IAE,
        "int drill(int,int)" + IAE,
        "int fit()",
        "long dose(int,int,int,int,int,int)" + NSE + IAE,
        "int outAt(int,int,int,int,int,int)" + NSE + IAE,
        "int whereAt(int,int,int,int,int,int,int)" + NSE + IAE,
        "int reading(int,int,boolean)" + NSE + IAE,
        "int fits(int)" + IAE,
        "int next(int)" + IAE,
        "boolean undo()",
        "boolean redo()",
        "void row(int,int,int)" + NSE + IAE,
        "long write(int,int,long)" + NSE + ISE + IOE,
        "int lay(int,int,int,int,int,int)" + NSE + IAE + ISE + IOE,
        "int count(int)");

    private static String told(Method m) {
        StringBuilder text = new StringBuilder(m.getReturnType() + " " + m.getName() + "(");
        for (Class<?> type : m.getParameterTypes()) {
            text.append(text.charAt(text.length() - 1) == '(' ? "" : ",").append(type);
        }
        text.append(")");
        for (Class<?> thrown : m.getExceptionTypes()) {
            text.append(" ").append(thrown.getSimpleName());
        }
        return text.toString();
    }

    private static void members() {
        Class<SmokeTubes> face = SmokeTubes.class;
        Check.yes("public final", Modifier.isPublic(face.getModifiers()) && Modifier.isFinal(face.getModifiers()));
        Constructor<?>[] made = face.getDeclaredConstructors();
        Check.yes("one constructor", made.length == 1 && made[0].getParameterCount() == 0
            && Modifier.isPublic(made[0].getModifiers()));
        Set<String> found = new TreeSet<>();
        Set<String> names = new TreeSet<>();
        for (Method m : face.getDeclaredMethods()) {
            if (Modifier.isPublic(m.getModifiers())) {
                found.add(told(m));
                names.add(m.getName());
            } else {
                Check.yes("private: " + m.getName(), Modifier.isPrivate(m.getModifiers()));
            }
        }
        Check.yes("the face: " + found, found.equals(new TreeSet<>(FACE)));
        for (Field f : face.getDeclaredFields()) {
            Check.yes("field " + f, f.getName().equals("NONE") || Modifier.isPrivate(f.getModifiers()));
        }
        Check.yes("some twelve classes", face.getDeclaredClasses().length <= 12);
        for (Class<?> inside : face.getDeclaredClasses()) {
            Check.yes("static: " + inside, Modifier.isStatic(inside.getModifiers()));
            insideOf(inside, names);
        }
        insideOf(face, names);
    }

    private static void insideOf(Class<?> one, Set<String> names) {
        int fields = 0;
        for (Field f : one.getDeclaredFields()) {
            boolean isConstant = Modifier.isStatic(f.getModifiers());
            fields += isConstant ? 0 : 1;
            Check.yes("final if static: " + f, !isConstant || Modifier.isFinal(f.getModifiers()));
        }
        Check.yes("some twenty fields: " + one, fields <= 22);
        for (Method m : one.getDeclaredMethods()) {
            boolean isFace = one == SmokeTubes.class && Modifier.isPublic(m.getModifiers());
            Check.yes("no name of the face: " + m, isFace || !names.contains(m.getName()));
            Check.yes("at most seven parameters: " + m, m.getParameterCount() <= 7);
        }
    }

    private static void source(Path file) throws IOException {
        String text = Files.readString(file);
        Check.yes("ASCII", text.chars().allMatch(c -> c < 128));
        String code = text.replaceAll("(?s)/\\*.*?\\*/", "").replaceAll("//[^\n]*", "");
        for (String no : List.of("->", "::", "@", "Exact(", "MAX_VALUE", "MIN_VALUE", "System.", "double ", "float ")) {
            Check.yes("not in the class: " + no, !code.contains(no));
        }
        for (String no : List.of("try", "catch", "finally", "synchronized", "assert", "package", "protected", "instanceof")) {
            Check.yes("not in the class: " + no, !code.matches("(?s).*\\b" + no + "\\b.*"));
        }
        int lines = 0;
        for (String line : code.split("\n")) {
            if (line.matches(" {4}( {4})?(public|private|static|[a-zA-Z\\[\\]]+) .*\\{") || line.matches(" {4}( {4})?}")) {
                Check.yes("methods of at most sixty lines, at " + line, lines <= 60 || line.contains("class"));
                lines = 0;
            }
            lines++;
        }
    }

    public static void main(String[] args) throws IOException {
        members();
        source(Path.of(args.length > 0 ? args[0] : ".", "src", "main", "java", "SmokeTubes.java"));
        Check.end("FaceTest");
    }
}
