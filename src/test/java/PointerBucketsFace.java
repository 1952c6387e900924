import java.lang.reflect.Constructor;
import java.lang.reflect.Field;
import java.lang.reflect.Method;
import java.lang.reflect.Modifier;
import java.util.Arrays;
import java.util.HashSet;
import java.util.Set;
import java.util.TreeSet;

/** The class has the members of the document's face and no other that can be seen from outside. */
public final class PointerBucketsFace {
    private static final String[] FACE = {
        "public static final int BAD", "public static final int NEW",
        "public static final int OLD", "public static final int NO_ROOM",
        "public PointerBuckets(int, int, int, int)",
        "public int put(int, int)", "public int get(int)", "public boolean has(int)",
        "public boolean remove(int)", "public int size()", "public int buckets()",
        "public int level()", "public int pointer()", "public int bucketOf(int)",
        "public int pages(int)", "public int free()", "public int key(int, int)",
        "public void clear()",
    };

    public static void main(String[] args) {
        Class<?> type = PointerBuckets.class;
        Set<String> due = new TreeSet<>(Arrays.asList(FACE));
        Set<String> seen = visibleMembers(type);
        boolean fine = due.equals(seen);
        if (!fine) {
            System.out.println("the face is " + seen + ", due is " + due);
        }
        if (!Modifier.isPublic(type.getModifiers()) || !Modifier.isFinal(type.getModifiers())) {
            System.out.println("the class is not public and final");
            fine = false;
        }
        for (String name : namesBothPublicAndPrivate(type)) {
            System.out.println("a private method bears the public name " + name);
            fine = false;
        }
        fine &= constantsAreDue();
        System.out.println(fine ? "the face is as due" : "the face is not as due");
        if (!fine) {
            System.exit(1);
        }
    }

    private static boolean constantsAreDue() {
        int[] got = {PointerBuckets.BAD, PointerBuckets.NEW, PointerBuckets.OLD, PointerBuckets.NO_ROOM};
        int[] due = {-1, 0, 1, 2};
        boolean fine = Arrays.equals(got, due);
        if (!fine) {
            System.out.println("the constants are " + Arrays.toString(got) + ", due is " + Arrays.toString(due));
        }
        return fine;
    }

    private static Set<String> visibleMembers(Class<?> type) {
        Set<String> seen = new TreeSet<>();
        for (Field field : type.getDeclaredFields()) {
            if (!Modifier.isPrivate(field.getModifiers())) {
                seen.add(words(field.getModifiers()) + field.getType() + " " + field.getName());
            }
        }
        for (Constructor<?> made : type.getDeclaredConstructors()) {
            if (!Modifier.isPrivate(made.getModifiers())) {
                seen.add(words(made.getModifiers()) + made.getName() + parameters(made.getParameterTypes()));
            }
        }
        for (Method method : type.getDeclaredMethods()) {
            if (!Modifier.isPrivate(method.getModifiers())) {
                seen.add(words(method.getModifiers()) + method.getReturnType() + " " + method.getName()
                    + parameters(method.getParameterTypes()));
            }
        }
        return seen;
    }

    private static Set<String> namesBothPublicAndPrivate(Class<?> type) {
        Set<String> hidden = new HashSet<>();
        Set<String> open = new HashSet<>();
        for (Method method : type.getDeclaredMethods()) {
            (Modifier.isPrivate(method.getModifiers()) ? hidden : open).add(method.getName());
        }
        hidden.retainAll(open);
        return hidden;
    }

    private static String words(int modifiers) {
        String words = Modifier.toString(modifiers);
        return words.isEmpty() ? "" : words + " ";
    }

    private static String parameters(Class<?>[] types) {
        StringBuilder text = new StringBuilder("(");
        for (int i = 0; i < types.length; i++) {
            text.append(i == 0 ? "" : ", ").append(types[i]);
        }
        return text.append(")").toString();
    }
}
