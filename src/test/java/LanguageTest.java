import java.io.IOException;
import java.lang.reflect.Constructor;
import java.lang.reflect.Field;
import java.lang.reflect.Member;
import java.lang.reflect.Method;
import java.lang.reflect.Modifier;
import java.util.ArrayList;
import java.util.HashSet;
import java.util.List;
import java.util.Map;
import java.util.Set;
import java.util.TreeMap;
import java.util.TreeSet;

/** The rules of LANGUAGE.md that the compiled class can be asked about, and the document's face. */
public final class LanguageTest extends Checks {
    private static final int ATHROW = 191;
    private static final int INVOKE_DYNAMIC = 186;
    private static final int MONITOR_ENTER = 194;
    private static final int MONITOR_EXIT = 195;
    private static final Set<Integer> MAKING = Set.of(187, 188, 189, 197);

    private static final Set<String> LIBRARY = Set.of("java/lang/Object.<init>()V", "java/lang/String.length()I",
            "java/lang/String.charAt(I)C", "java/lang/Math.max(II)I", "java/lang/Math.min(II)I",
            "java/lang/Math.abs(J)J", "java/lang/Integer.bitCount(I)I");

    private static final List<Class<?>> CLASSES = List.of(LazyForms.class.getNestMembers());
    private static final Map<String, ClassFile.Method> METHODS = new TreeMap<>();

    public static void main(String[] args) throws IOException {
        for (Class<?> type : CLASSES) {
            ClassFile file = ClassFile.of(type);
            file.methods.forEach(method -> METHODS.put(method.key(file.name), method));
        }
        face();
        namesOfMethods();
        classesInside();
        library();
        staticFields();
        nothingThrown();
        parametersAndLines();
        classesAndFields();
        depthOfCalls();
        madeInConstructors();
        finish();
    }

    private static void face() {
        about("the public face");
        Set<String> members = new TreeSet<>();
        for (Member member : membersOf(LazyForms.class)) {
            if (!Modifier.isPrivate(member.getModifiers())) {
                members.add(member.toString());
            }
        }
        due("members that are not private", members, new TreeSet<>(Set.of(
                "public static final int LazyForms.NONE",
                "public LazyForms(int)",
                "public int LazyForms.feed(int,int,int,int,int)",
                "public int LazyForms.load(int)",
                "public boolean LazyForms.ask(int,int)",
                "public int LazyForms.fault(int)",
                "public int LazyForms.run(int)",
                "public int LazyForms.about(int)",
                "public int LazyForms.octet(int)",
                "public int LazyForms.definition(int,int)")));
        due("public and final", LazyForms.class.getModifiers(), Modifier.PUBLIC | Modifier.FINAL);
        due("NONE", LazyForms.NONE, -1);
    }

    private static List<Member> membersOf(Class<?> type) {
        List<Member> members = new ArrayList<>(List.of(type.getDeclaredFields()));
        members.addAll(List.of(type.getDeclaredMethods()));
        members.addAll(List.of(type.getDeclaredConstructors()));
        return members;
    }

    private static void namesOfMethods() {
        about("rule 1: no private method bears the name of a public one");
        Set<String> names = new HashSet<>();
        for (Method method : LazyForms.class.getDeclaredMethods()) {
            if (Modifier.isPublic(method.getModifiers())) {
                names.add(method.getName());
            }
        }
        for (Class<?> type : CLASSES) {
            for (Method method : type.getDeclaredMethods()) {
                boolean bears = names.contains(method.getName());
                due(method.toString(), bears && !Modifier.isPublic(method.getModifiers()), false);
            }
        }
    }

    private static void classesInside() {
        about("rule 2: classes inside are static, and private or package-visible");
        for (Class<?> type : CLASSES) {
            if (type == LazyForms.class) {
                continue;
            }
            int modifiers = type.getModifiers();
            due(type + " is static", Modifier.isStatic(modifiers), true);
            due(type + " is seen outside", Modifier.isPublic(modifiers) || Modifier.isProtected(modifiers), false);
            due(type + " is a member", type.isMemberClass(), true);
        }
    }

    private static void library() {
        about("rule 4: only what stands there");
        METHODS.forEach((key, method) -> {
            for (String call : method.calls) {
                due(key + " calls " + call, METHODS.containsKey(call) || LIBRARY.contains(call), true);
            }
        });
    }

    private static void staticFields() {
        about("rule 5: static fields are final constants");
        Set<Class<?>> types = Set.of(int.class, long.class, boolean.class, char.class, String.class);
        for (Class<?> type : CLASSES) {
            for (Field field : type.getDeclaredFields()) {
                if (Modifier.isStatic(field.getModifiers())) {
                    due(field + " is final", Modifier.isFinal(field.getModifiers()), true);
                    due(field + " is a constant", types.contains(field.getType()), true);
                }
            }
        }
    }

    private static void nothingThrown() {
        about("rule 6: no throw, catch, synchronized; rule 2: no lambda");
        METHODS.forEach((key, method) -> {
            due(key + " catches", method.handlers, 0);
            for (int instruction : List.of(ATHROW, INVOKE_DYNAMIC, MONITOR_ENTER, MONITOR_EXIT)) {
                due(key + " has instruction " + instruction, method.instructions.contains(instruction), false);
            }
        });
    }

    private static void parametersAndLines() {
        about("rule 11: at most seven parameters, some sixty lines");
        for (Class<?> type : CLASSES) {
            for (Method method : type.getDeclaredMethods()) {
                due(method + " takes too many", method.getParameterCount() > 7, false);
            }
            for (Constructor<?> constructor : type.getDeclaredConstructors()) {
                due(constructor + " takes too many", constructor.getParameterCount() > 7, false);
            }
        }
        METHODS.forEach((key, method) -> due(key + " is long", method.lines > 60, false));
    }

    private static void classesAndFields() {
        about("rule 11: some twelve classes, some twenty fields beside constants");
        due("more than twelve classes", CLASSES.size() > 12, false);
        for (Class<?> type : CLASSES) {
            int fields = 0;
            for (Field field : type.getDeclaredFields()) {
                fields += Modifier.isStatic(field.getModifiers()) ? 0 : 1;
            }
            due(type + " has more than twenty fields", fields > 20, false);
        }
    }

    private static void depthOfCalls() {
        about("rule 11: calls that are no recursion go at most eight deep");
        Set<String> recursive = new TreeSet<>();
        for (String key : METHODS.keySet()) {
            if (comesTo(key, key, new HashSet<>())) {
                recursive.add(key);
            }
        }
        for (String key : METHODS.keySet()) {
            due(key + " goes too deep, " + deepest(key, recursive), deepest(key, recursive) > 8, false);
        }
        about("rule 8: what is recursive carries its depth");
        for (String key : recursive) {
            due(key + " takes a number", key.contains("I)"), true);
        }
    }

    private static boolean comesTo(String from, String to, Set<String> seen) {
        for (String call : METHODS.get(from).calls) {
            if (call.equals(to) || METHODS.containsKey(call) && seen.add(call) && comesTo(call, to, seen)) {
                return true;
            }
        }
        return false;
    }

    /** How many calls stand open at once below this one and with it, as long as none of them is recursive. */
    private static int deepest(String key, Set<String> recursive) {
        int most = 0;
        for (String call : METHODS.get(key).calls) {
            if (METHODS.containsKey(call) && !recursive.contains(call)) {
                most = Math.max(most, deepest(call, recursive));
            }
        }
        return 1 + most;
    }

    private static void madeInConstructors() {
        about("one room for all calls: objects and rows are made in constructors alone");
        METHODS.forEach((key, method) -> {
            boolean makes = method.instructions.stream().anyMatch(MAKING::contains);
            due(key + " makes something", makes && !method.name.equals("<init>"), false);
        });
    }
}
