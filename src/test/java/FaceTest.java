import java.io.IOException;
import java.lang.reflect.Array;
import java.lang.reflect.Constructor;
import java.lang.reflect.Field;
import java.lang.reflect.Member;
import java.lang.reflect.Method;
import java.lang.reflect.Modifier;
import java.nio.file.Files;
import java.nio.file.Path;
import java.util.ArrayDeque;
import java.util.ArrayList;
import java.util.Arrays;
import java.util.Collections;
import java.util.Deque;
import java.util.HashSet;
import java.util.IdentityHashMap;
import java.util.List;
import java.util.Set;
import java.util.TreeSet;

/** The public face, some of the rules of LANGUAGE.md that can be read off the class, and the room an object takes. */
public final class FaceTest {
    private static final String[] FACE = {
        "int rule(int, int, int, int, int) IllegalArgumentException IllegalStateException",
        "int level(int, int, int) IllegalArgumentException",
        "int equation(int, int, int, int, int) NoSuchElementException IllegalArgumentException",
        "int build() IllegalStateException UnsupportedOperationException",
        "int first(int) IllegalArgumentException",
        "int action(int, int) IllegalStateException IllegalArgumentException",
        "int go(int, int) IllegalStateException IllegalArgumentException",
        "int lookaheads(int, int) IllegalStateException IllegalArgumentException NoSuchElementException",
        "int token(int, int) IllegalArgumentException IllegalStateException",
        "int parse() IllegalStateException UnsupportedOperationException IllegalArgumentException",
        "int fault()",
        "int node(int, int) NoSuchElementException IllegalArgumentException",
        "long attribute(int, int) NoSuchElementException IllegalArgumentException",
        "int clear()",
        "int count(int) IllegalArgumentException",
    };

    public static void main(String[] args) throws IOException {
        face();
        members();
        source();
        room();
        Check.end();
    }

    private static void face() {
        int modifiers = GrammarWorks.class.getModifiers();
        Check.holds(Modifier.isPublic(modifiers) && Modifier.isFinal(modifiers), "the class is public and final");
        Check.holds(GrammarWorks.class.getPackageName().isEmpty(), "the class has no package");
        Constructor<?>[] constructors = GrammarWorks.class.getDeclaredConstructors();
        Check.answers(1, () -> constructors.length, "constructors");
        Check.holds(Modifier.isPublic(constructors[0].getModifiers()), "the constructor is public");
        Check.answers(0, () -> constructors[0].getParameterCount(), "the constructor's parameters");
        Set<String> found = new TreeSet<>();
        for (Method method : GrammarWorks.class.getDeclaredMethods()) {
            if (!Modifier.isPrivate(method.getModifiers()) && !method.isSynthetic()) {
                found.add(describe(method));
            }
        }
        Check.compare(new TreeSet<>(Arrays.asList(FACE)).toString(), found.toString(), "the public methods");
    }

    private static String describe(Method method) {
        List<String> parameters = new ArrayList<>();
        for (Class<?> parameter : method.getParameterTypes()) {
            parameters.add(parameter.getSimpleName());
        }
        StringBuilder text = new StringBuilder();
        text.append(method.getReturnType().getSimpleName()).append(' ').append(method.getName());
        text.append('(').append(String.join(", ", parameters)).append(')');
        for (Class<?> thrown : method.getExceptionTypes()) {
            text.append(' ').append(thrown.getSimpleName());
        }
        return text.toString();
    }

    private static void members() {
        Set<String> names = new HashSet<>();
        for (Method method : GrammarWorks.class.getDeclaredMethods()) {
            if (Modifier.isPublic(method.getModifiers())) {
                names.add(method.getName());
            }
        }
        checkMembers(GrammarWorks.class, names);
        Class<?>[] inside = GrammarWorks.class.getDeclaredClasses();
        Check.holds(inside.length <= 12, "not too many classes");
        for (Class<?> nested : inside) {
            Check.holds(Modifier.isStatic(nested.getModifiers()), nested + " is static");
            Check.holds(!Modifier.isPublic(nested.getModifiers()), nested + " is not public");
            checkMembers(nested, names);
        }
    }

    private static void checkMembers(Class<?> owner, Set<String> faceNames) {
        int fields = 0;
        for (Member field : owner.getDeclaredFields()) {
            boolean constant = Modifier.isStatic(field.getModifiers());
            fields += constant ? 0 : 1;
            Check.holds(Modifier.isPrivate(field.getModifiers()), field + " is private");
            Check.holds(!constant || Modifier.isFinal(field.getModifiers()), field + " is final");
        }
        Check.holds(fields <= 20, owner + " has not too many fields");
        for (Method method : owner.getDeclaredMethods()) {
            boolean ofTheFace = owner == GrammarWorks.class && Modifier.isPublic(method.getModifiers());
            Check.holds(ofTheFace || !faceNames.contains(method.getName()), method + " has a name of its own");
            Check.holds(method.getParameterCount() <= 7, method + " has not too many parameters");
        }
    }

    /** Words that LANGUAGE.md leaves no use for in this program. */
    private static void source() throws IOException {
        String text = Files.readString(Path.of("src/main/java/GrammarWorks.java"));
        String code = text.replaceAll("(?s)/\\*.*?\\*/", "").replaceAll("//[^\\n]*", "");
        String[] barred = {
            "->", "::", "catch", "finally", "synchronized", "assert ", "@", "record ", "float", "double",
            "Exact", "System.", "Random", "Thread", "hashCode", "toString", "instanceof", "\" +", "+ \"", "var ",
        };
        for (String word : barred) {
            Check.holds(!code.contains(word), "the source is without " + word);
        }
        Check.compare("[import java.util.NoSuchElementException;]", imports(code).toString(), "imports");
        for (int k = 0; k < text.length(); k++) {
            if (text.charAt(k) > 127) {
                Check.holds(false, "a sign above 127 at " + k);
            }
        }
    }

    /** An object takes little room, and its calls make nothing that is kept. */
    private static void room() {
        GrammarWorks x = new GrammarWorks();
        long before = roomOf(x);
        System.out.println("an object takes " + before + " fields and elements");
        Check.holds(before < 12000, "an object takes little room");
        x.rule(8, 8, 1, 0, 0);
        x.rule(8, 1, 0, 0, 0);
        x.equation(0, 0, 2, 10, 20);
        for (int k = 0; k < 100; k++) {
            x.build();
            x.token(1, k);
            x.token(1, k);
            x.parse();
        }
        Check.answers(before, () -> roomOf(x), "the room behind many calls");
    }

    private static long roomOf(Object root) {
        Set<Object> seen = Collections.newSetFromMap(new IdentityHashMap<>());
        Deque<Object> waiting = new ArrayDeque<>();
        waiting.add(root);
        long room = 0;
        try {
            while (!waiting.isEmpty()) {
                Object next = waiting.remove();
                if (!seen.add(next)) {
                    continue;
                }
                if (next.getClass().isArray()) {
                    room += Array.getLength(next);
                    continue;
                }
                for (Field field : next.getClass().getDeclaredFields()) {
                    if (!Modifier.isStatic(field.getModifiers())) {
                        room++;
                        field.setAccessible(true);
                        if (!field.getType().isPrimitive()) {
                            waiting.add(field.get(next));
                        }
                    }
                }
            }
        } catch (IllegalAccessException e) {
            throw new IllegalStateException(e);
        }
        return room;
    }

    private static List<String> imports(String code) {
        List<String> imports = new ArrayList<>();
        for (String line : code.split("\n")) {
            if (line.startsWith("import ") || line.startsWith("package ")) {
                imports.add(line);
            }
        }
        return imports;
    }
}
