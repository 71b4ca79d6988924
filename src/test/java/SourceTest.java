import java.io.IOException;
import java.lang.reflect.Constructor;
import java.lang.reflect.Field;
import java.lang.reflect.Method;
import java.lang.reflect.Modifier;
import java.nio.file.Files;
import java.nio.file.Path;
import java.util.ArrayList;
import java.util.Arrays;
import java.util.List;
import java.util.Set;
import java.util.TreeSet;
import java.util.regex.Matcher;
import java.util.regex.Pattern;

/** The class has the document's face and keeps to those rules of LANGUAGE.md that can be seen in it. */
public final class SourceTest {
    private static final String[] FACE = {"sheet(int)", "fold(int,int,boolean,boolean)",
        "flap(int,int,boolean,boolean,int,int,int)", "cut(int,int,boolean)", "punch(int,int,int)", "turn()", "quarter()",
        "open()", "undo()", "triangle(int,int)", "cell(int,int,int,int)", "layer(int,int,int,int)", "side(int,int)",
        "point(int,int,boolean,int)", "pieces()", "piece(int)", "view(int)", "keep(int)", "alike(int)", "search(int,int)",
        "found(int,int)", "feed(int,int,int,int,int)", "end(int)", "diagram()", "fault(int)", "log(int,int)", "count(int)"};

    private static int wrong;

    public static void main(String[] args) throws IOException, ReflectiveOperationException {
        face();
        constants();
        nestedClasses();
        String code = bare(Files.readString(Path.of("src/main/java/FoldDesk.java")));
        words(code);
        methodLengths(code);
        if (wrong > 0) {
            System.exit(1);
        }
    }

    private static void must(boolean holds, String what) {
        if (!holds) {
            wrong++;
            System.out.println("it does not hold that " + what);
        }
    }

    private static void face() {
        Set<String> face = new TreeSet<>();
        Set<String> names = new TreeSet<>();
        for (Method m : FoldDesk.class.getDeclaredMethods()) {
            if (Modifier.isPublic(m.getModifiers())) {
                StringBuilder types = new StringBuilder();
                for (Class<?> type : m.getParameterTypes()) {
                    types.append(types.length() > 0 ? "," : "").append(type.getName());
                }
                face.add(m.getName() + "(" + types + ")");
                names.add(m.getName());
                must(m.getReturnType() == int.class, m + " answers an int");
            }
        }
        must(face.equals(new TreeSet<>(Arrays.asList(FACE))), "the public methods are those of the document: " + face);
        for (Class<?> c : classes()) {
            for (Method m : c.getDeclaredMethods()) {
                must(c != FoldDesk.class || !names.contains(m.getName()) || Modifier.isPublic(m.getModifiers()), m + " is not named like a public one");
                must(c == FoldDesk.class || !names.contains(m.getName()), m + " is not named like a public one");
                must(m.getParameterCount() <= 7, m + " has seven parameters at the most");
            }
        }
        for (Method m : FoldDesk.class.getDeclaredMethods()) {
            must(Modifier.isPublic(m.getModifiers()) || Modifier.isPrivate(m.getModifiers()), m + " is public or private");
        }
        Constructor<?>[] made = FoldDesk.class.getDeclaredConstructors();
        must(made.length == 1 && made[0].getParameterCount() == 0 && Modifier.isPublic(made[0].getModifiers()), "there is one public constructor");
        must(Modifier.isFinal(FoldDesk.class.getModifiers()), "the class is final");
    }

    private static void constants() throws ReflectiveOperationException {
        String[] names = {"NONE", "RANGE", "STAYS", "BEYOND", "FULL"};
        for (int i = 0; i < names.length; i++) {
            Field f = FoldDesk.class.getField(names[i]);
            must(f.getType() == int.class && f.getInt(null) == -1 - i, names[i] + " is " + (-1 - i));
        }
        for (Field f : FoldDesk.class.getDeclaredFields()) {
            must(Arrays.asList(names).contains(f.getName()) || Modifier.isPrivate(f.getModifiers()), f + " is private");
        }
    }

    private static List<Class<?>> classes() {
        List<Class<?>> all = new ArrayList<>(List.of(FoldDesk.class));
        all.addAll(Arrays.asList(FoldDesk.class.getDeclaredClasses()));
        return all;
    }

    private static void nestedClasses() {
        must(classes().size() <= 12, "there are twelve classes at the most");
        for (Class<?> c : classes()) {
            must(c == FoldDesk.class || Modifier.isStatic(c.getModifiers()), c + " is static");
            must(c.getDeclaredClasses().length == 0 || c == FoldDesk.class, c + " has no class inside");
            int fields = 0;
            for (Field f : c.getDeclaredFields()) {
                boolean isStatic = Modifier.isStatic(f.getModifiers());
                must(!isStatic || Modifier.isFinal(f.getModifiers()), f + " is final");
                must(!isStatic || Set.of("int", "long", "boolean", "char", "java.lang.String", "[I", "[J", "[C", "[B")
                        .contains(f.getType().getName()), f + " is of a type that a constant may have");
                fields += isStatic ? 0 : 1;
            }
            must(fields <= 20, c + " has twenty fields at the most");
        }
    }

    /** The source without its comments, and with all texts empty. */
    private static String bare(String source) {
        return source.replaceAll("(?s)/\\*.*?\\*/", "").replaceAll("//[^\\n]*", "")
                .replaceAll("\"[^\"]*\"", "\"\"").replaceAll("'[^']+'", "' '");
    }

    private static void words(String code) {
        String[] banned = {"throw", "throws", "try", "catch", "finally", "synchronized", "assert", "package", "protected",
            "native", "volatile", "transient", "yield", "var", "double", "float", "hashCode", "System.out", "System.nano",
            "Thread", "Random", "HashMap", "Object", "Exact"};
        for (String word : banned) {
            must(!Pattern.compile("\\b" + Pattern.quote(word) + "\\b").matcher(code).find(), "'" + word + "' is not used");
        }
        must(!code.contains("->") && !code.contains("::"), "there is no lambda and no method reference");
        must(!Pattern.compile("\\[\\]\\[\\]\\[\\]").matcher(code).find(), "arrays have two dimensions at the most");
        Matcher imports = Pattern.compile("import ([\\w.]+);").matcher(code);
        while (imports.find()) {
            must(Set.of("java.util.Arrays", "java.util.ArrayList", "java.util.List", "java.util.Iterator").contains(imports.group(1)),
                    imports.group(1) + " may be used");
        }
    }

    private static void methodLengths(String code) {
        String[] lines = code.split("\n");
        int began = -1;
        int indent = 0;
        for (int i = 0; i < lines.length; i++) {
            Matcher head = Pattern.compile("^( {4}| {8})(?=\\S)[\\w\\[\\] ]+\\([^;]*\\) \\{$").matcher(lines[i]);
            if (began < 0 && head.find()) {
                began = i;
                indent = head.group(1).length();
            } else if (began >= 0 && lines[i].equals(" ".repeat(indent) + "}")) {
                must(i - began <= 60, "the method '" + lines[began].trim() + "' has sixty lines at the most");
                began = -1;
            }
        }
    }
}
