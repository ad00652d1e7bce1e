import java.lang.reflect.Constructor;
import java.lang.reflect.Field;
import java.lang.reflect.Member;
import java.lang.reflect.Method;
import java.lang.reflect.Modifier;
import java.util.Arrays;
import java.util.Set;
import java.util.TreeSet;

/**
 * The class has the document's face, and nothing else that another class could see; and what of the
 * language's rules 1 and 5 can be seen from outside: names of private methods, classes inside, static
 * fields.
 */
public final class FaceTest {
    private static final Set<String> FACE = new TreeSet<>(Arrays.asList(
            "public static final int DeltaRows.NONE",
            "public DeltaRows()",
            "public boolean DeltaRows.put(long)",
            "public void DeltaRows.clear()",
            "public int DeltaRows.count()",
            "public long DeltaRows.get(int)",
            "public int DeltaRows.write()",
            "public int DeltaRows.read()",
            "public int DeltaRows.place()",
            "public int DeltaRows.size()",
            "public int DeltaRows.byteAt(int)",
            "public boolean DeltaRows.setByte(int,int)",
            "public boolean DeltaRows.append(int)",
            "public boolean DeltaRows.cut(int)",
            "public int DeltaRows.blocks()",
            "public long DeltaRows.least(int)",
            "public int DeltaRows.width(int,int)",
            "public int DeltaRows.start(int,int)"));

    private static boolean isSeen(Member member) {
        return !Modifier.isPrivate(member.getModifiers());
    }

    private static Set<String> seenMembers() {
        Set<String> seen = new TreeSet<>();
        for (Field field : DeltaRows.class.getDeclaredFields()) {
            if (isSeen(field)) {
                seen.add(field.toString());
            }
        }
        for (Constructor<?> constructor : DeltaRows.class.getDeclaredConstructors()) {
            if (isSeen(constructor)) {
                seen.add(constructor.toString());
            }
        }
        for (Method method : DeltaRows.class.getDeclaredMethods()) {
            if (isSeen(method)) {
                seen.add(method.toString());
            }
        }
        return seen;
    }

    private static Set<String> publicNames() {
        Set<String> names = new TreeSet<>();
        for (Method method : DeltaRows.class.getDeclaredMethods()) {
            if (isSeen(method)) {
                names.add(method.getName());
            }
        }
        return names;
    }

    private static Set<String> brokenRules() {
        Set<String> broken = new TreeSet<>();
        Set<String> publicNames = publicNames();
        for (Class<?> inside : DeltaRows.class.getDeclaredClasses()) {
            int modifiers = inside.getModifiers();
            if (Modifier.isPublic(modifiers) || Modifier.isProtected(modifiers) || !Modifier.isStatic(modifiers)) {
                broken.add(inside + " can be seen, or isn't static");
            }
            addStaticState(broken, inside);
        }
        addStaticState(broken, DeltaRows.class);
        for (Method method : DeltaRows.class.getDeclaredMethods()) {
            if (!isSeen(method) && publicNames.contains(method.getName())) {
                broken.add(method + " bears the name of a public one");
            }
        }
        return broken;
    }

    private static void addStaticState(Set<String> broken, Class<?> where) {
        for (Field field : where.getDeclaredFields()) {
            int modifiers = field.getModifiers();
            if (Modifier.isStatic(modifiers) && !Modifier.isFinal(modifiers)) {
                broken.add(field + " is static and not final");
            }
        }
    }

    public static void main(String[] args) {
        Set<String> seen = seenMembers();
        Set<String> missing = new TreeSet<>(FACE);
        missing.removeAll(seen);
        Set<String> added = new TreeSet<>(seen);
        added.removeAll(FACE);
        int modifiers = DeltaRows.class.getModifiers();
        boolean isPublicFinal = Modifier.isPublic(modifiers) && Modifier.isFinal(modifiers);
        Set<String> broken = brokenRules();
        if (!missing.isEmpty() || !added.isEmpty() || !isPublicFinal || !broken.isEmpty()) {
            System.out.println("missing: " + missing + ", not of the document: " + added
                    + ", public and final: " + isPublicFinal + ", against the rules: " + broken);
            System.exit(1);
        }
        System.out.println("the face is as due");
    }
}
