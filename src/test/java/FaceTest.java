import java.lang.reflect.Constructor;
import java.lang.reflect.Field;
import java.lang.reflect.Method;
import java.lang.reflect.Modifier;
import java.util.Arrays;
import java.util.TreeSet;

/** The public face: what the document declares, and nothing else that can be seen from outside. */
public final class FaceTest {
    private static final String[] FACE = {
        "public static final int BAD", "public static final int ABSENT",
        "public static final int TAKEN", "public static final int FULL",
        "public BlockExecutor(int)",
        "public boolean put(int,int)", "public int store(int)", "public int drop(int)",
        "public int rows(int)", "public int key(int,int)", "public int value(int,int)",
        "public int sort(int,int,int)", "public int select(int,int,int,int)",
        "public int distinct(int,int)", "public int group(int,int)",
        "public int combine(int,int,int,int)", "public int join(int,int,int)",
        "public long transfers()", "public int blocks()",
    };

    public static void main(String[] args) {
        Check.due("BAD", BlockExecutor.BAD, -1);
        Check.due("ABSENT", BlockExecutor.ABSENT, -2);
        Check.due("TAKEN", BlockExecutor.TAKEN, -3);
        Check.due("FULL", BlockExecutor.FULL, -4);

        TreeSet<String> seen = new TreeSet<>();
        TreeSet<String> hidden = new TreeSet<>();
        TreeSet<String> names = new TreeSet<>();
        for (Field field : BlockExecutor.class.getDeclaredFields()) {
            if (!Modifier.isPrivate(field.getModifiers())) {
                seen.add(plain(field.toString()));
            }
        }
        for (Constructor<?> constructor : BlockExecutor.class.getDeclaredConstructors()) {
            seen.add(plain(constructor.toString()));
        }
        for (Method method : BlockExecutor.class.getDeclaredMethods()) {
            if (Modifier.isPrivate(method.getModifiers())) {
                hidden.add(method.getName());
            } else {
                seen.add(plain(method.toString()));
                names.add(method.getName());
            }
        }
        TreeSet<String> due = new TreeSet<>(Arrays.asList(FACE));
        if (!seen.equals(due)) {
            System.out.println("seen: " + seen);
            System.out.println("due:  " + due);
        }
        Check.due("the face is the document's", seen.equals(due), true);
        hidden.retainAll(names);
        Check.due("private methods with public names", hidden.size(), 0);
        Check.due("the class is final", Modifier.isFinal(BlockExecutor.class.getModifiers()), true);
        Check.end();
    }

    private static String plain(String member) {
        return member.replace("BlockExecutor.", "");
    }
}
