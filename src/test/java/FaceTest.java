import java.lang.reflect.Constructor;
import java.lang.reflect.Field;
import java.lang.reflect.Method;
import java.lang.reflect.Modifier;
import java.util.HashSet;
import java.util.Set;
import java.util.TreeSet;

/** The face of the class is the document's and no more; no static state can change. */
public final class FaceTest {
    private static int wrong = 0;

    public static void main(String[] args) {
        Class<?> face = DetentCabinet.class;
        if (!Modifier.isFinal(face.getModifiers()) || !Modifier.isPublic(face.getModifiers())) {
            tell("the class is not public and final");
        }
        Set<String> want = new TreeSet<>(Set.of(
            "public static final int DetentCabinet.NONE",
            "public DetentCabinet()",
            "public int DetentCabinet.dial(int,long,long)",
            "public int DetentCabinet.rod(int,int,int)",
            "public int DetentCabinet.set(int,long)",
            "public int DetentCabinet.turn(int,int)",
            "public int DetentCabinet.take(int,int,int)",
            "public int DetentCabinet.back()",
            "public int DetentCabinet.order(int,int)",
            "public long DetentCabinet.look(int,int)",
            "public int DetentCabinet.count(int)"));
        Set<String> got = openMembers(face);
        if (!got.equals(want)) {
            tell("the open members are " + got);
        }
        privateNames(face);
        staticFields(face);
        for (Class<?> inside : face.getDeclaredClasses()) {
            if (!Modifier.isStatic(inside.getModifiers()) || Modifier.isPublic(inside.getModifiers())) {
                tell(inside + " is public or not static");
            }
            staticFields(inside);
        }
        System.out.println(wrong == 0 ? "the face is the document's" : wrong + " faults of the face");
        if (wrong != 0) {
            System.exit(1);
        }
    }

    private static void tell(String fault) {
        wrong++;
        System.out.println(fault);
    }

    private static Set<String> openMembers(Class<?> face) {
        Set<String> open = new TreeSet<>();
        for (Field field : face.getDeclaredFields()) {
            if (!Modifier.isPrivate(field.getModifiers())) {
                open.add(field.toString());
            }
        }
        for (Constructor<?> constructor : face.getDeclaredConstructors()) {
            if (!Modifier.isPrivate(constructor.getModifiers())) {
                open.add(constructor.toString());
            }
        }
        for (Method method : face.getDeclaredMethods()) {
            if (!Modifier.isPrivate(method.getModifiers())) {
                open.add(method.toString());
            }
        }
        return open;
    }

    private static void privateNames(Class<?> face) {
        Set<String> open = new HashSet<>();
        for (Method method : face.getDeclaredMethods()) {
            if (Modifier.isPublic(method.getModifiers())) {
                open.add(method.getName());
            }
        }
        for (Method method : face.getDeclaredMethods()) {
            if (Modifier.isPrivate(method.getModifiers()) && open.contains(method.getName())) {
                tell("a private method bears the name " + method.getName());
            }
        }
    }

    private static void staticFields(Class<?> type) {
        for (Field field : type.getDeclaredFields()) {
            if (Modifier.isStatic(field.getModifiers()) && !Modifier.isFinal(field.getModifiers())) {
                tell(field + " can change");
            }
        }
    }
}
