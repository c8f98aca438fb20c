import java.io.IOException;
import java.lang.reflect.Constructor;
import java.lang.reflect.Field;
import java.lang.reflect.Member;
import java.lang.reflect.Method;
import java.lang.reflect.Modifier;
import java.nio.file.Files;
import java.nio.file.Path;
import java.util.Set;
import java.util.TreeSet;
import java.util.regex.Matcher;
import java.util.regex.Pattern;

/** The face of the class, and those rules of LANGUAGE.md that can be read off its text. */
public final class FormTest {
    private static final Set<String> FACE = Set.of(
            "int NONE", "SpanGraph()", "int link(int,int)", "int clear()", "int hole(int)",
            "int triple(int)", "int path(int,int)", "int cliques()", "int clique(int)", "long lines()",
            "int at(int)", "int span(int,boolean)", "long begins(int)", "long follows(int,int)",
            "long between(int,int,int)", "boolean isProper()");
    private static final String[] FORBIDDEN = {
        "\\bimport\\b", "\\bpackage\\b", "\\bthrow\\b", "\\bthrows\\b", "\\btry\\b", "\\bcatch\\b",
        "\\bsynchronized\\b", "\\bassert\\b", "->", "::", "Exact\\b", "\\bnanoTime\\b", "\\bRandom\\b",
        "\\bThread\\b", "\\bSystem\\.(?!arraycopy)", "\\bstatic\\s*\\{", "\\bhashCode\\b", "\\btoString\\b",
        "\\bwhile\\s*\\(true\\)", "for\\s*\\(;;"
    };
    private static final int LONGEST_METHOD = 60;

    private static int wrong = 0;

    public static void main(String[] args) throws IOException {
        checkFace();
        checkNested();
        String text = Files.readString(Path.of("src/main/java/SpanGraph.java"));
        String code = text.replaceAll("(?s)/\\*.*?\\*/", "").replaceAll("//[^\n]*", "");
        for (String pattern : FORBIDDEN) {
            Matcher matcher = Pattern.compile(pattern).matcher(code);
            require(!matcher.find(), "the program has " + pattern);
        }
        checkMethodLengths(text);
        System.out.println(wrong == 0 ? "the form is as due" : wrong + " rules are broken");
        if (wrong != 0) {
            System.exit(1);
        }
    }

    private static void require(boolean holds, String text) {
        if (!holds) {
            wrong++;
            System.out.println(text);
        }
    }

    private static void checkFace() {
        Class<?> type = SpanGraph.class;
        Set<String> seen = new TreeSet<>();
        for (Field field : type.getDeclaredFields()) {
            place(field, field.getType().getName() + " " + field.getName(), seen);
        }
        for (Constructor<?> constructor : type.getDeclaredConstructors()) {
            place(constructor, "SpanGraph" + told(constructor.getParameterTypes()), seen);
        }
        for (Method method : type.getDeclaredMethods()) {
            String name = method.getName() + told(method.getParameterTypes());
            place(method, method.getReturnType().getName() + " " + name, seen);
        }
        require(seen.equals(new TreeSet<>(FACE)), "the face is " + seen);
        require(Modifier.isFinal(type.getModifiers()), "the class is not final");
        require(SpanGraph.NONE == -1, "NONE is " + SpanGraph.NONE);
    }

    private static void place(Member member, String told, Set<String> seen) {
        if (!Modifier.isPrivate(member.getModifiers())) {
            require(Modifier.isPublic(member.getModifiers()), told + " is neither public nor private");
            seen.add(told);
        }
    }

    private static String told(Class<?>[] types) {
        StringBuilder text = new StringBuilder("(");
        for (Class<?> type : types) {
            text.append(text.length() > 1 ? "," : "").append(type.getName());
        }
        return text.append(")").toString();
    }

    private static void checkNested() {
        Set<String> names = new TreeSet<>();
        for (Method method : SpanGraph.class.getDeclaredMethods()) {
            if (Modifier.isPublic(method.getModifiers())) {
                names.add(method.getName());
            }
        }
        require(SpanGraph.class.getDeclaredClasses().length < 12, "there are too many classes");
        for (Class<?> nested : SpanGraph.class.getDeclaredClasses()) {
            require(Modifier.isStatic(nested.getModifiers()), nested + " is not static");
            require(nested.getDeclaredFields().length <= 20, nested + " has too many fields");
            for (Method method : nested.getDeclaredMethods()) {
                require(!names.contains(method.getName()), method + " bears a name of the face");
                require(method.getParameterCount() <= 7, method + " has too many parameters");
            }
            for (Field field : nested.getDeclaredFields()) {
                require(!Modifier.isStatic(field.getModifiers()), field + " is static");
            }
        }
    }

    /** A method begins with an indented line that ends with ") {" and ends at a brace as far in. */
    private static void checkMethodLengths(String text) {
        String[] rows = text.split("\n");
        for (int i = 0; i < rows.length; i++) {
            String in = rows[i].substring(0, rows[i].length() - rows[i].stripLeading().length());
            boolean begins = rows[i].endsWith(") {") && (in.length() == 4 || in.length() == 8);
            int end = i;
            while (begins && end < rows.length && !rows[end].equals(in + "}")) {
                end++;
            }
            require(end - i < LONGEST_METHOD, "too long: " + rows[i].strip());
        }
    }
}
