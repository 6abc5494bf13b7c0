import java.lang.reflect.Constructor;
import java.lang.reflect.Field;
import java.lang.reflect.Member;
import java.lang.reflect.Method;
import java.lang.reflect.Modifier;
import java.util.Map;
import java.util.TreeMap;

/** Promise 1 and the public face: what there is, and a new object. */
public final class FaceTest {
    private static final Check CHECK = new Check();
    private static final String[] INT_CALLS = {
        "put 2", "write 1", "erase 0", "fault 0", "push 2", "rest 0", "begin 1", "tick 1", "told 1",
        "turn 1", "peak 1", "gain 1", "worth 3", "begins 0", "best 2", "when 4", "far 1", "farthest 1",
        "swaps 2", "simplest 1", "image 1", "from 1", "status 1"};

    public static void main(String[] args) {
        members();
        newObject();
        CHECK.end();
    }

    private static void members() {
        Map<String, String> face = new TreeMap<>();
        for (String call : INT_CALLS) {
            face.put(call, "int");
        }
        face.put("digest 0", "long");
        int fields = 0;
        for (Field f : SwingYard.class.getDeclaredFields()) {
            fields += isSeen(f) ? 1 : 0;
        }
        CHECK.due("fields that can be seen", fields, 4);
        CHECK.due("NONE", SwingYard.NONE, -1);
        CHECK.due("BAD", SwingYard.BAD, -2);
        CHECK.due("NO", SwingYard.NO, -3);
        CHECK.due("FULL", SwingYard.FULL, -4);
        int methods = 0;
        for (Method m : SwingYard.class.getDeclaredMethods()) {
            String call = m.getName() + " " + m.getParameterCount();
            if (isSeen(m)) {
                methods++;
                CHECK.due(call + " is of the face", m.getReturnType().getName().equals(face.get(call)) ? 1 : 0, 1);
                CHECK.due(call + " is public, not static",
                        Modifier.isPublic(m.getModifiers()) && !Modifier.isStatic(m.getModifiers()) ? 1 : 0, 1);
            } else {
                CHECK.due(m.getName() + ", private, has a name of the face", isNameOfFace(m.getName(), face), 0);
            }
        }
        CHECK.due("methods that can be seen", methods, face.size());
        Constructor<?>[] constructors = SwingYard.class.getDeclaredConstructors();
        CHECK.due("constructors", constructors.length, 1);
        CHECK.due("parameters of it", constructors[0].getParameterCount(), 0);
        CHECK.due("it is public", Modifier.isPublic(constructors[0].getModifiers()) ? 1 : 0, 1);
        CHECK.due("the class is final", Modifier.isFinal(SwingYard.class.getModifiers()) ? 1 : 0, 1);
    }

    private static boolean isSeen(Member m) {
        return !m.isSynthetic() && !Modifier.isPrivate(m.getModifiers());
    }

    private static int isNameOfFace(String name, Map<String, String> face) {
        for (String call : face.keySet()) {
            if (call.startsWith(name + " ")) {
                return 1;
            }
        }
        return 0;
    }

    private static void newObject() {
        SwingYard x = new SwingYard();
        CHECK.told(x, "new", 0, 0, 0, 0, 0, 0, 0, 0, 0, 0, 0, 0);
        for (int i = 0; i < 40; i++) {
            CHECK.due("turn(" + i + ") of a new one", x.turn(i), -1);
        }
        CHECK.due("fault() of a new one", x.fault(), 1);
        for (int i = 0; i < 4; i++) {
            CHECK.due("status(" + i + ") of a new one", x.status(i), 0);
        }
        CHECK.due("from(0) of a new one", x.from(0), -3);
        CHECK.due("from(1) of a new one", x.from(1), -3);
        int[] first = {200, 2, 1, 2, 3, 0, 0, 200};
        for (int i = 0; i < first.length; i++) {
            CHECK.due("number " + i + " at first", x.put(i, first[i]), first[i]);
        }
        CHECK.due("erase() of a new one", x.erase(), 0);
        CHECK.due("rest() of a new one", x.rest(), 0);
    }
}
