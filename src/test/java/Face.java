import com.sun.source.tree.ClassTree;
import com.sun.source.tree.CompilationUnitTree;
import com.sun.source.tree.MethodTree;
import com.sun.source.tree.Tree;
import com.sun.source.tree.VariableTree;
import java.io.IOException;
import java.lang.reflect.Constructor;
import java.lang.reflect.Field;
import java.lang.reflect.Method;
import java.lang.reflect.Modifier;
import java.nio.charset.StandardCharsets;
import java.nio.file.Files;
import java.nio.file.Path;
import java.util.ArrayList;
import java.util.Arrays;
import java.util.List;
import java.util.Set;
import java.util.TreeSet;
import java.util.stream.Collectors;

/** The face: all that is open of a class, as the document writes it, as a source writes it, as a class has it. */
final class Face {
    private static final Path DOCUMENT = Path.of("..", "shared", "DOC.md");
    private static final String HEADING = "## The public face";

    private Face() {
    }

    /** What is wrong with the face of this program, a line each; none if it is the document's. */
    static List<String> faultsOf(String source) throws IOException, ReflectiveOperationException {
        CompilationUnitTree document = Programs.parse(ofDocument()).unit();
        CompilationUnitTree program = Programs.parse(source).unit();
        Class<?> made = Programs.load(source);
        List<String> faults = new ArrayList<>();
        compare(faults, "the source", open(document), open(program));
        compare(faults, "the class", withoutNames(open(document)), open(made));
        Set<String> names = methodNames(document);
        for (String name : closedMethodNames(program)) {
            if (names.contains(name)) {
                faults.add("a private method bears the name of a public one: " + name);
            }
        }
        classesInside(faults, made);
        return faults;
    }

    /** The names of the document's methods. */
    static Set<String> methodNames() throws IOException {
        return methodNames(Programs.parse(ofDocument()).unit());
    }

    /** The face stands in the document as Java, but for the bodies of its methods. */
    private static String ofDocument() throws IOException {
        String text = Files.readString(DOCUMENT, StandardCharsets.UTF_8);
        String opening = "```java\n";
        int begin = text.indexOf(opening, text.indexOf(HEADING)) + opening.length();
        return text.substring(begin, text.indexOf("```", begin));
    }

    private static void compare(List<String> faults, String where, Set<String> due, Set<String> got) {
        for (String member : due) {
            if (!got.contains(member)) {
                faults.add(where + " has not: " + member);
            }
        }
        for (String member : got) {
            if (!due.contains(member)) {
                faults.add(where + " has, but the document has not: " + member);
            }
        }
    }

    // ---- of a source

    private static Set<String> open(CompilationUnitTree unit) {
        Set<String> open = new TreeSet<>();
        for (Tree type : unit.getTypeDecls()) {
            ClassTree outer = (ClassTree) type;
            String above = outer.getExtendsClause() == null ? "" : " extends " + outer.getExtendsClause();
            String faces = outer.getImplementsClause().isEmpty() ? "" : " implements " + outer.getImplementsClause();
            open.add(flags(outer.getModifiers().getFlags()) + "class " + outer.getSimpleName() + above + faces);
            for (Tree member : outer.getMembers()) {
                if (member instanceof MethodTree method && !isPrivate(method.getModifiers().getFlags())) {
                    open.add(written(outer, method));
                } else if (member instanceof VariableTree field && !isPrivate(field.getModifiers().getFlags())) {
                    open.add(flags(field.getModifiers().getFlags()) + field.getType() + " " + field.getName() + " = "
                        + field.getInitializer());
                }
            }
        }
        return open;
    }

    private static String written(ClassTree outer, MethodTree method) {
        String head = method.getReturnType() == null
            ? outer.getSimpleName().toString() : method.getReturnType() + " " + method.getName();
        String parameters = method.getParameters().stream()
            .map(parameter -> parameter.getType() + " " + parameter.getName()).collect(Collectors.joining(", "));
        List<String> thrown = method.getThrows().stream().map(Object::toString).toList();
        return flags(method.getModifiers().getFlags()) + head + "(" + parameters + ")" + throwsClause(thrown);
    }

    private static String flags(Set<javax.lang.model.element.Modifier> flags) {
        return flags.stream().map(flag -> flag + " ").collect(Collectors.joining());
    }

    private static boolean isPrivate(Set<javax.lang.model.element.Modifier> flags) {
        return flags.contains(javax.lang.model.element.Modifier.PRIVATE);
    }

    private static String throwsClause(List<String> thrown) {
        return thrown.isEmpty() ? "" : " throws " + String.join(", ", thrown);
    }

    private static Set<String> methodNames(CompilationUnitTree unit) {
        return names(unit, false);
    }

    private static Set<String> closedMethodNames(CompilationUnitTree unit) {
        return names(unit, true);
    }

    private static Set<String> names(CompilationUnitTree unit, boolean closed) {
        Set<String> names = new TreeSet<>();
        for (Tree type : unit.getTypeDecls()) {
            for (Tree member : ((ClassTree) type).getMembers()) {
                if (member instanceof MethodTree method && method.getReturnType() != null
                        && isPrivate(method.getModifiers().getFlags()) == closed) {
                    names.add(method.getName().toString());
                }
            }
        }
        return names;
    }

    // ---- of a class

    /** A class bears no names of parameters, and all parameters of the document are numbers. */
    private static Set<String> withoutNames(Set<String> open) {
        return open.stream().map(member -> member.replaceAll("(int|long|double) \\w+(?=[,)])", "$1"))
            .collect(Collectors.toCollection(TreeSet::new));
    }

    private static Set<String> open(Class<?> type) throws IllegalAccessException {
        Set<String> open = new TreeSet<>();
        String above = type.getSuperclass() == Object.class ? "" : " extends " + type.getSuperclass();
        String faces = type.getInterfaces().length == 0 ? "" : " implements " + Arrays.toString(type.getInterfaces());
        open.add(Modifier.toString(type.getModifiers()) + " class " + type.getSimpleName() + above + faces);
        for (Field field : type.getDeclaredFields()) {
            if (!Modifier.isPrivate(field.getModifiers())) {
                open.add(Modifier.toString(field.getModifiers()) + " " + field.getType().getSimpleName() + " "
                    + field.getName() + " = " + valueOf(field));
            }
        }
        for (Constructor<?> constructor : type.getDeclaredConstructors()) {
            if (!Modifier.isPrivate(constructor.getModifiers())) {
                open.add(Modifier.toString(constructor.getModifiers()) + " " + type.getSimpleName()
                    + types("(", constructor.getParameterTypes(), ")")
                    + throwsClause(simpleNames(constructor.getExceptionTypes())));
            }
        }
        for (Method method : type.getDeclaredMethods()) {
            if (!Modifier.isPrivate(method.getModifiers())) {
                open.add(Modifier.toString(method.getModifiers()) + " " + method.getReturnType().getSimpleName() + " "
                    + method.getName() + types("(", method.getParameterTypes(), ")")
                    + throwsClause(simpleNames(method.getExceptionTypes())));
            }
        }
        return open;
    }

    private static String valueOf(Field field) throws IllegalAccessException {
        return Modifier.isStatic(field.getModifiers()) && field.trySetAccessible() ? "" + field.get(null) : "?";
    }

    private static String types(String before, Class<?>[] types, String behind) {
        return before + String.join(", ", simpleNames(types)) + behind;
    }

    private static List<String> simpleNames(Class<?>[] types) {
        return Arrays.stream(types).map(Class::getSimpleName).toList();
    }

    /** Rule 1 of LANGUAGE.md: private or package-visible and static; an enum or a record is static by itself. */
    private static void classesInside(List<String> faults, Class<?> type) {
        for (Class<?> inside : type.getDeclaredClasses()) {
            int flags = inside.getModifiers();
            if (Modifier.isPublic(flags) || Modifier.isProtected(flags) || !Modifier.isStatic(flags)) {
                faults.add("a class inside is not private or package-visible and static: " + inside.getSimpleName());
            }
            classesInside(faults, inside);
        }
    }
}
