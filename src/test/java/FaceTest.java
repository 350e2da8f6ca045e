import java.lang.reflect.Constructor;
import java.lang.reflect.Field;
import java.lang.reflect.Method;
import java.lang.reflect.Modifier;
import java.util.Arrays;
import java.util.TreeSet;

/** The public face: the class, its constant, its constructor, its eleven methods, no more. */
public final class FaceTest {
    public static void main(String[] args) {
        Check check = new Check();
        Class<?> face = RoomEchoes.class;
        check.due("the class is", Modifier.toString(face.getModifiers()), "public final");
        check.due("NONE", RoomEchoes.NONE, -1);
        check.due("the visible members", visibleMembers(face).toString(), dueMembers().toString());
        check.due("the class above it", face.getSuperclass().getName(), "java.lang.Object");
        check.due("interfaces of it", face.getInterfaces().length, 0);
        check.due("classes inside that a caller can reach", reachableInside(face).toString(), "[]");
        check.due("private methods with a public one's name", namesTwice(face), 0);
        check.end();
    }

    private static TreeSet<String> dueMembers() {
        String thrown = " throws java.lang.IllegalArgumentException";
        return new TreeSet<>(Arrays.asList(
                "public static final int RoomEchoes.NONE",
                "public RoomEchoes(int,int,int)",
                "public void RoomEchoes.source(int,int,int)" + thrown,
                "public void RoomEchoes.listener(int,int,int)" + thrown,
                "public int RoomEchoes.keeps(int,int)" + thrown,
                "public long RoomEchoes.image(int,int,int,int)" + thrown,
                "public long RoomEchoes.echo(int,int)" + thrown,
                "public int RoomEchoes.place(int,int,int)" + thrown,
                "public int RoomEchoes.until(long)" + thrown,
                "public long RoomEchoes.loud(int,int)" + thrown,
                "public long RoomEchoes.early(long,int)" + thrown,
                "public int RoomEchoes.enough(int)" + thrown,
                "public int RoomEchoes.loudest(int)" + thrown));
    }

    private static TreeSet<String> visibleMembers(Class<?> face) {
        TreeSet<String> members = new TreeSet<>();
        for (Field field : face.getDeclaredFields()) {
            if (!Modifier.isPrivate(field.getModifiers())) {
                members.add(field.toString());
            }
        }
        for (Constructor<?> constructor : face.getDeclaredConstructors()) {
            if (!Modifier.isPrivate(constructor.getModifiers())) {
                members.add(constructor.toString());
            }
        }
        for (Method method : face.getDeclaredMethods()) {
            if (!Modifier.isPrivate(method.getModifiers())) {
                members.add(method.toString());
            }
        }
        return members;
    }

    private static TreeSet<String> reachableInside(Class<?> face) {
        TreeSet<String> reachable = new TreeSet<>();
        for (Class<?> inside : face.getDeclaredClasses()) {
            if (!Modifier.isPrivate(inside.getModifiers())) {
                reachable.add(inside.getName());
            }
        }
        return reachable;
    }

    private static int namesTwice(Class<?> face) {
        TreeSet<String> visible = new TreeSet<>();
        for (Method method : face.getMethods()) {
            visible.add(method.getName());
        }
        int twice = 0;
        for (Method method : face.getDeclaredMethods()) {
            if (Modifier.isPrivate(method.getModifiers()) && visible.contains(method.getName())) {
                twice++;
            }
        }
        return twice;
    }
}
