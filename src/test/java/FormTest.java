import java.io.IOException;
import java.lang.reflect.Array;
import java.lang.reflect.Constructor;
import java.lang.reflect.Field;
import java.lang.reflect.Member;
import java.lang.reflect.Method;
import java.lang.reflect.Modifier;
import java.nio.file.Files;
import java.nio.file.Path;
import java.util.ArrayList;
import java.util.List;
import java.util.Map;
import java.util.Set;
import java.util.TreeMap;
import java.util.TreeSet;
import java.util.regex.Matcher;
import java.util.regex.Pattern;

/**
 * The face of the class, and those rules of LANGUAGE.md that can be read off the class and its text. The
 * method rule5 tests rule 5, and so on. It is stricter than the rules where the program is: no loop but a
 * for with a counter, no recursion, and no object made but by constructors.
 */
public final class FormTest {
    private static final Set<String> FACE = Set.of(
            "int NONE", "SpanGraph()", "int link(int,int)", "int clear()", "int hole(int)",
            "int triple(int)", "int path(int,int)", "int cliques()", "int clique(int)", "long lines()",
            "int at(int)", "int span(int,boolean)", "long begins(int)", "long follows(int,int)",
            "long between(int,int,int)", "boolean isProper()");
    private static final Set<String> LIBRARY = Set.of(
            "System.arraycopy", "Integer.bitCount", "Math.min", "Math.max", "Math.abs");
    private static final String[] FORBIDDEN = {
        "throw", "throws", "try", "catch", "synchronized", "assert", "instanceof", "switch", "hashCode",
        "toString", "equals", "volatile", "native"
    };
    private static final String[] OUTSIDE = {
        "import", "package", "nanoTime", "currentTimeMillis", "Random", "random", "Thread", "File", "getenv"
    };
    private static final int LONGEST_METHOD = 60;
    private static final int DEEPEST_CALL = 8;
    private static final int MOST_FIELDS = 20;
    private static final int MOST_CLASSES = 12;
    /** With these, thousands of objects fit the room that all calls of one run share. */
    private static final int MOST_OBJECTS_MADE = 60;
    private static final int MOST_ELEMENTS_MADE = 1200;
    /** A method of the outer class or of one within it: its name stands right before the parameters. */
    private static final Pattern HEAD =
            Pattern.compile("^( {4}| {8})(\\w[\\w\\[\\] ]*? )?(\\w+)\\([^()]*\\) \\{$");

    private static int wrong = 0;
    private static int objectsMade = 0;
    private static int elementsMade = 0;

    private final String code;
    private final List<Class<?>> classes = new ArrayList<>();
    /** The text of each method, by its name; those of one name together. */
    private final Map<String, String> bodies = new TreeMap<>();

    private FormTest(String text) {
        code = text.replaceAll("(?s)/\\*.*?\\*/", "").replaceAll("//[^\n]*", "");
        classes.add(SpanGraph.class);
        classes.addAll(List.of(SpanGraph.class.getDeclaredClasses()));
        gatherMethods();
    }

    public static void main(String[] args) throws IOException, IllegalAccessException {
        FormTest test = new FormTest(Files.readString(Path.of("src/main/java/SpanGraph.java")));
        test.rule1();
        test.rule2();
        test.rule3();
        test.rule4();
        test.rule5();
        test.rule6();
        test.rule7();
        test.rule8And11Calls();
        test.rule9();
        test.rule11Sizes();
        test.rule12();
        test.rule13();
        System.out.println(wrong == 0 ? "the form is as due" : wrong + " rules are broken");
        if (wrong != 0) {
            System.exit(1);
        }
    }

    private static void require(boolean holds, String text) {
        if (!holds) {
            wrong++;
            System.out.println(text);
        }
    }

    private boolean finds(String pattern) {
        return Pattern.compile(pattern).matcher(code).find();
    }

    /** A method ends at a brace as far in as its head. */
    private void gatherMethods() {
        String[] rows = code.split("\n");
        for (int i = 0; i < rows.length; i++) {
            Matcher head = HEAD.matcher(rows[i]);
            if (head.matches() && !Set.of("if", "for", "while", "switch").contains(head.group(3))) {
                StringBuilder body = new StringBuilder();
                int end = i + 1;
                while (end < rows.length && !rows[end].equals(head.group(1) + "}")) {
                    body.append(rows[end]).append('\n');
                    end++;
                }
                require(end - i < LONGEST_METHOD, "rule 11: too long: " + rows[i].strip());
                bodies.merge(head.group(3), body.toString(), String::concat);
            }
        }
    }

    // Rule 1: the face

    private void rule1() {
        Set<String> seen = new TreeSet<>();
        Set<String> names = new TreeSet<>();
        for (Field field : SpanGraph.class.getDeclaredFields()) {
            place(field, field.getType().getName() + " " + field.getName(), seen);
        }
        for (Constructor<?> constructor : SpanGraph.class.getDeclaredConstructors()) {
            place(constructor, "SpanGraph" + told(constructor.getParameterTypes()), seen);
        }
        for (Method method : SpanGraph.class.getDeclaredMethods()) {
            String name = method.getName() + told(method.getParameterTypes());
            place(method, method.getReturnType().getName() + " " + name, seen);
            if (Modifier.isPublic(method.getModifiers())) {
                require(names.add(method.getName()), "rule 1: two public ones are named " + name);
            }
        }
        require(seen.equals(new TreeSet<>(FACE)), "rule 1: the face is " + seen);
        require(SpanGraph.NONE == -1, "rule 1: NONE is " + SpanGraph.NONE);
        int modifiers = SpanGraph.class.getModifiers();
        require(Modifier.isFinal(modifiers) && Modifier.isPublic(modifiers), "rule 1: not public and final");
        for (Class<?> type : classes) {
            for (Method method : type.getDeclaredMethods()) {
                boolean face = type == SpanGraph.class && Modifier.isPublic(method.getModifiers());
                boolean free = face || !names.contains(method.getName());
                require(free, "rule 1: " + method + " bears a public name");
            }
        }
    }

    private static void place(Member member, String told, Set<String> seen) {
        if (!Modifier.isPrivate(member.getModifiers())) {
            require(Modifier.isPublic(member.getModifiers()), "rule 1: not public nor private: " + told);
            seen.add(told);
        }
    }

    private static String told(Class<?>[] types) {
        StringBuilder text = new StringBuilder("(");
        for (Class<?> type : types) {
            text.append(text.length() > 1 ? "," : "").append(type.getName());
        }
        return text.append(")").toString();
    }

    // Rule 2: the classes inside

    private void rule2() {
        for (Class<?> nested : SpanGraph.class.getDeclaredClasses()) {
            int modifiers = nested.getModifiers();
            boolean open = Modifier.isPublic(modifiers) || Modifier.isProtected(modifiers);
            require(Modifier.isStatic(modifiers) && !open, "rule 2: " + nested + " is not static or is open");
            require(nested.getDeclaredClasses().length == 0, "rule 2: a class within " + nested);
        }
        require(!finds("->|::"), "rule 2: a lambda or a method reference");
        require(!finds("new \\w+\\([^\n]*\\) \\{"), "rule 2: an anonymous class");
        require(!finds("(?m)^ {8,}(final |abstract )*(class|record|interface|enum) "), "rule 2: a local class");
    }

    // Rule 3: types

    private void rule3() {
        for (Class<?> type : classes) {
            for (Field field : type.getDeclaredFields()) {
                require(isPlain(field.getType()), "rule 3: " + field);
            }
            for (Method method : type.getDeclaredMethods()) {
                boolean plain = method.getReturnType() == void.class || isPlain(method.getReturnType());
                for (Class<?> given : method.getParameterTypes()) {
                    plain &= isPlain(given);
                }
                require(plain, "rule 3: " + method);
            }
        }
        String others = "\\b(double|float|String|Object|var)\\b|\"|\\]\\s*\\[";
        require(!finds(others), "rule 3: a type that the program has no use for");
    }

    private boolean isPlain(Class<?> type) {
        Class<?> part = type.isArray() ? type.getComponentType() : type;
        return part == int.class || part == long.class || part == boolean.class || classes.contains(part);
    }

    // Rule 4: the library

    private void rule4() {
        Matcher matcher = Pattern.compile("\\b([A-Z]\\w*\\.\\w+)").matcher(code);
        while (matcher.find()) {
            require(LIBRARY.contains(matcher.group(1)), "rule 4: " + matcher.group(1));
        }
        require(!finds("Exact\\b"), "rule 4: a function whose name ends in Exact");
    }

    // Rule 5: static fields

    private void rule5() {
        for (Class<?> type : classes) {
            for (Field field : type.getDeclaredFields()) {
                int modifiers = field.getModifiers();
                boolean constant = Modifier.isFinal(modifiers) && field.getType().isPrimitive();
                require(!Modifier.isStatic(modifiers) || constant, "rule 5: " + field);
            }
        }
        require(!finds("\\bstatic\\s*\\{"), "rule 5: a static initialiser");
    }

    // Rule 6: words

    private void rule6() {
        for (String word : FORBIDDEN) {
            require(!finds("\\b" + word + "\\b"), "rule 6: " + word);
        }
    }

    // Rule 7: no divisor is 0; what may be given is tried by the tests of the promises

    private void rule7() {
        for (String row : code.split("\n")) {
            Matcher matcher = Pattern.compile("[/%]=? *(\\w+)").matcher(row);
            while (matcher.find()) {
                String divisor = matcher.group(1);
                boolean looked = row.contains(divisor + " > 0 ?");
                require(divisor.matches("[1-9]\\d*") || looked, "rule 7: divided by what may be 0: " + row);
            }
        }
    }

    // Rules 8 and 11: no recursion, and no call deeper than eight

    private void rule8And11Calls() {
        for (String name : bodies.keySet()) {
            int depth = depth(name, new ArrayList<>());
            require(depth <= DEEPEST_CALL, "rule 11: " + name + " goes " + depth + " deep");
        }
        for (String member : FACE) {
            String name = member.replaceAll("\\(.*", "").replaceAll(".* ", "");
            require(name.equals("NONE") || bodies.containsKey(name), "the text of " + name + " was not found");
        }
    }

    /** How many calls stand open at most, this one among them; methods of one name count as one. */
    private int depth(String name, List<String> open) {
        if (open.contains(name)) {
            require(false, "rule 8: recursion by " + open + " and " + name);
            return 0;
        }
        open.add(name);
        int deepest = 0;
        Matcher matcher = Pattern.compile("(new )?\\b(\\w+)\\(").matcher(bodies.get(name));
        while (matcher.find()) {
            if (bodies.containsKey(matcher.group(2))) {
                deepest = Math.max(deepest, depth(matcher.group(2), open));
            }
        }
        open.remove(open.size() - 1);
        return deepest + 1;
    }

    // Rule 9: loops

    private void rule9() {
        require(!finds("\\b(while|do)\\b"), "rule 9: a loop without a counter");
        Matcher matcher = Pattern.compile("\\bfor \\((.*)\\) \\{").matcher(code);
        int loops = 0;
        while (matcher.find()) {
            loops++;
            boolean up = matcher.group(1).matches("int (\\w+) = [^;]+; \\1 <=? [^;|]+; \\1\\+\\+");
            boolean down = matcher.group(1).matches("int (\\w+) = [^;]+; \\1 >=? [^;|]+; \\1--");
            require(up || down, "rule 9: for (" + matcher.group(1) + ")");
        }
        require(loops == code.split("\\bfor\\b", -1).length - 1, "rule 9: a loop of another form");
    }

    // Rule 11: sizes (the lengths of methods are looked at where they are gathered)

    private void rule11Sizes() {
        require(classes.size() <= MOST_CLASSES, "rule 11: " + classes.size() + " classes");
        for (Class<?> type : classes) {
            int fields = 0;
            for (Field field : type.getDeclaredFields()) {
                fields += Modifier.isStatic(field.getModifiers()) ? 0 : 1;
            }
            require(fields <= MOST_FIELDS, "rule 11: " + type + " has too many fields");
            for (Method method : type.getDeclaredMethods()) {
                require(method.getParameterCount() <= 7, "rule 11: too many parameters: " + method);
            }
        }
    }

    // Rule 12: what is made

    private void rule12() throws IllegalAccessException {
        for (Map.Entry<String, String> method : bodies.entrySet()) {
            boolean makes = Pattern.compile("\\bnew\\b|\\.clone\\(|copyOf").matcher(method.getValue()).find();
            boolean constructor = Character.isUpperCase(method.getKey().charAt(0));
            require(constructor || !makes, "rule 12: an object is made by " + method.getKey());
        }
        countMade(new SpanGraph());
        require(objectsMade <= MOST_OBJECTS_MADE, "rule 12: a new one makes " + objectsMade + " objects");
        require(elementsMade <= MOST_ELEMENTS_MADE, "rule 12: a new one makes " + elementsMade + " elements");
    }

    /** The objects hang together as a tree, so that none is counted twice. */
    private void countMade(Object made) throws IllegalAccessException {
        objectsMade++;
        if (made.getClass().isArray()) {
            elementsMade += Array.getLength(made);
            for (int i = 0; i < Array.getLength(made); i++) {
                if (!made.getClass().getComponentType().isPrimitive()) {
                    countMade(Array.get(made, i));
                }
            }
            return;
        }
        for (Field field : made.getClass().getDeclaredFields()) {
            if (!Modifier.isStatic(field.getModifiers())) {
                elementsMade++;
                field.setAccessible(true);
                if (!field.getType().isPrimitive()) {
                    countMade(field.get(made));
                }
            }
        }
    }

    // Rule 13: nothing from outside

    private void rule13() {
        for (String word : OUTSIDE) {
            require(!finds("\\b" + word + "\\b"), "rule 13: " + word);
        }
    }
}
