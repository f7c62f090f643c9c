import java.io.IOException;
import java.lang.reflect.Constructor;
import java.lang.reflect.Field;
import java.lang.reflect.Method;
import java.lang.reflect.Modifier;
import java.nio.file.Files;
import java.nio.file.Path;
import java.util.HashSet;
import java.util.List;
import java.util.Set;
import java.util.TreeSet;
import java.util.regex.Matcher;
import java.util.regex.Pattern;

/**
 * The rules of LANGUAGE.md that can be looked up: the face (1), and words and signs that the others keep out.
 * Usage: FormTest path-of-CoreMelter.java
 */
public final class FormTest {
    private static final Set<String> FACE = Set.of(
        "INVALID_ARGUMENT int", "NOT_POSSIBLE int", "LIMIT_REACHED int", "NOT_FOUND int", "CoreMelter()",
        "addSegment(int,int,int,int) int", "segment(int,int) int", "segmentAt(int) int", "waterBelow(int) int",
        "renew() int", "undo() int", "set(int,int) int", "clean(int) int", "run(int) int", "count(int) int",
        "account(int) int", "line(int,int) int", "again() int", "vial(int,int) int", "vialAt(int) int",
        "ifRun(int,int) int", "ticksTo(int) int", "flowFor(int) int", "type(int) int", "clearText() int",
        "fault(int) int", "lay() int");
    private static final String[] KEPT_OUT = {
        "throw", "throws", "try", "catch", "finally", "synchronized", "assert", "package", "->", "::", "volatile",
        "Exact", "equals", "hashCode", "toString", "protected", "native", "transient", "var", "Object", "long\\s*\\[\\]\\[\\]\\["};
    private static final Set<String> LIBRARY = Set.of("String", "StringBuilder", "Integer", "Long", "Math", "System",
        "Arrays", "ArrayList", "List", "Iterator", "Iterable", "Comparable");

    private static final Set<Class<?>> OF_CONSTANTS =
        Set.of(int.class, long.class, boolean.class, char.class, String.class);
    private static final Set<Class<?>> OF_STATIC_ARRAYS = Set.of(int.class, long.class, char.class, byte.class);

    private static int passed = 0;
    private static int failed = 0;

    public static void main(String[] args) throws IOException {
        face();
        classesInside();
        for (Class<?> c : CoreMelter.class.getNestMembers()) {
            fields(c);
        }
        source(Files.readString(Path.of(args[0])));
        System.out.println("FormTest: " + passed + " passed, " + failed + " failed");
        if (failed > 0) {
            System.exit(1);
        }
    }

    private static void holds(String what, boolean so) {
        if (so) {
            passed++;
        } else {
            failed++;
            System.out.println("FormTest: " + what);
        }
    }

    private static String parameters(Class<?>[] types) {
        StringBuilder all = new StringBuilder("(");
        for (Class<?> type : types) {
            all.append(all.length() == 1 ? "" : ",").append(type.getName());
        }
        return all.append(')').toString();
    }

    private static void face() {
        Class<?> c = CoreMelter.class;
        holds("the class is public and final", Modifier.isPublic(c.getModifiers()) && Modifier.isFinal(c.getModifiers()));
        Set<String> found = new HashSet<>();
        for (Field f : c.getDeclaredFields()) {
            if (!Modifier.isPrivate(f.getModifiers())) {
                found.add(f.getName() + " " + f.getType());
                holds(f + " is a public constant",
                    f.getModifiers() == (Modifier.PUBLIC | Modifier.STATIC | Modifier.FINAL));
            }
        }
        for (Constructor<?> k : c.getDeclaredConstructors()) {
            if (!Modifier.isPrivate(k.getModifiers())) {
                found.add("CoreMelter" + parameters(k.getParameterTypes()));
                holds(k + " is public", k.getModifiers() == Modifier.PUBLIC);
            }
        }
        for (Method m : c.getDeclaredMethods()) {
            if (!Modifier.isPrivate(m.getModifiers())) {
                found.add(m.getName() + parameters(m.getParameterTypes()) + " " + m.getReturnType());
                holds(m + " is public", m.getModifiers() == Modifier.PUBLIC);
            }
        }
        holds("the face is " + new TreeSet<>(found), found.equals(FACE));
    }

    private static void classesInside() {
        Class<?>[] inside = CoreMelter.class.getDeclaredClasses();
        holds("at most twelve classes", inside.length + 1 <= 12);
        holds("no local or anonymous classes", CoreMelter.class.getNestMembers().length == inside.length + 1);
        Set<String> faceNames = new HashSet<>();
        for (String member : FACE) {
            faceNames.add(member.replaceAll("[( ].*", ""));
        }
        for (Class<?> c : inside) {
            int is = c.getModifiers();
            holds(c + " is static, and not public or protected",
                Modifier.isStatic(is) && !Modifier.isPublic(is) && !Modifier.isProtected(is));
            int fields = 0;
            for (Field f : c.getDeclaredFields()) {
                fields += Modifier.isStatic(f.getModifiers()) ? 0 : 1;
            }
            holds(c + " has at most twenty fields", fields <= 20);
            for (Method m : c.getDeclaredMethods()) {
                holds(m + " has another name than those of the face", !faceNames.contains(m.getName()));
                holds(m + " takes at most seven parameters", m.getParameterCount() <= 7);
            }
        }
    }

    /** Rules 3 and 5: the types of the fields, and that static ones are final. */
    private static void fields(Class<?> c) {
        for (Field f : c.getDeclaredFields()) {
            Class<?> type = f.getType();
            if (Modifier.isStatic(f.getModifiers())) {
                holds(f + " is final", Modifier.isFinal(f.getModifiers()));
                holds(f + " is a constant or an array of numbers", type.isArray()
                    ? OF_STATIC_ARRAYS.contains(type.getComponentType()) : OF_CONSTANTS.contains(type));
                continue;
            }
            Class<?> plain = type.isArray() ? type.getComponentType() : type;
            holds(f + " has a type that is allowed",
                plain.isPrimitive() || plain == String.class || plain.getNestHost() == CoreMelter.class);
        }
    }

    /** Rule 11 asks for some sixty lines, rule 12 for few objects: here rows are made with the object alone. */
    private static void methods(String code) {
        String name = "";
        int lines = 0;
        Pattern head = Pattern.compile("^\\s+(?:(?:public|private|static|final)\\s+)*(?:\\w+(?:\\[\\])?\\s+)?(\\w+)\\(.*\\{$");
        for (String line : code.split("\n")) {
            Matcher begin = head.matcher(line);
            boolean member = line.matches("(    |        )\\S.*") && begin.find();
            if (member && !line.matches("\\s+(if|for|while|switch|else|do)\\b.*")) {
                name = begin.group(1);
                lines = 0;
            }
            lines++;
            holds(name + " has at most sixty lines", lines <= 60 || name.isEmpty());
            boolean making = Pattern.compile("\\bnew\\b").matcher(line).find();
            boolean row = line.matches("\\s+(private )?final \\S+ \\w+ = new .*");
            boolean constructor = !name.isEmpty() && Character.isUpperCase(name.charAt(0));
            holds(name + " makes something: " + line, !making || row || constructor);
        }
    }

    private static void source(String whole) {
        String code = whole.replaceAll("(?s)/\\*.*?\\*/", " ").replaceAll("//.*", " ").replaceAll("'[^']'", "' '")
            .replaceAll("\"[^\"]*\"", "\"\"");
        for (String word : KEPT_OUT) {
            String pattern = Character.isLetter(word.charAt(0)) ? "\\b" + word + "\\b" : word;
            if (word.equals("Exact")) {
                pattern = "Exact\\b";
            }
            holds("'" + word + "' is kept out", !Pattern.compile(pattern).matcher(code).find());
        }
        Matcher imports = Pattern.compile("import\\s+([\\w.*]+);").matcher(code);
        while (imports.find()) {
            holds("import of " + imports.group(1), List.of("java.util.Arrays", "java.util.ArrayList", "java.util.List",
                "java.util.Iterator").contains(imports.group(1)));
        }
        names(code.replaceAll("import .*", ""));
        methods(code);
        holds("all signs are of 1 to 127", whole.chars().allMatch(sign -> sign > 0 && sign < 128));
        for (String line : whole.split("\n")) {
            holds("a line of more than 120 signs: " + line, line.length() <= 120);
        }
    }

    /** Names with a great and a small letter are the library's that is allowed, or classes of the file. */
    private static void names(String code) {
        Set<String> own = new HashSet<>(LIBRARY);
        Matcher classes = Pattern.compile("\\b(?:class|record|enum|interface)\\s+(\\w+)").matcher(code);
        while (classes.find()) {
            own.add(classes.group(1));
        }
        Matcher names = Pattern.compile("\\b[A-Z]\\w*[a-z]\\w*\\b").matcher(code);
        Set<String> foreign = new TreeSet<>();
        while (names.find()) {
            if (!own.contains(names.group())) {
                foreign.add(names.group());
            }
        }
        holds("foreign names: " + foreign, foreign.isEmpty());
    }
}
