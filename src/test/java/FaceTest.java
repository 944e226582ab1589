import java.lang.reflect.Constructor;
import java.lang.reflect.Field;
import java.lang.reflect.Method;
import java.lang.reflect.Modifier;
import java.util.Set;
import java.util.TreeSet;

/** The class has the document's face, and no member beside it that another class could see. */
public final class FaceTest {
    private static final String FACE = String.join("\n",
            "public StrandMapper()",
            "public boolean StrandMapper.base(int)",
            "public boolean StrandMapper.read(int)",
            "public int StrandMapper.at(int)",
            "public int StrandMapper.count()",
            "public int StrandMapper.first()",
            "public int StrandMapper.hit(int,int)",
            "public int StrandMapper.hits()",
            "public int StrandMapper.last(int)",
            "public int StrandMapper.length(boolean)",
            "public int StrandMapper.map(int)",
            "public int StrandMapper.mappings()",
            "public int StrandMapper.rank(int,int)",
            "public int StrandMapper.row(int)",
            "public int StrandMapper.size()",
            "public static final int StrandMapper.BAD",
            "public static final int StrandMapper.EMPTY",
            "public static final int StrandMapper.NONE",
            "public static final int StrandMapper.OVERFLOW",
            "public void StrandMapper.clear()",
            "public void StrandMapper.turn()",
            "public void StrandMapper.wipe()");
    private static int wrong = 0;

    private static void due(String what, String got, String want) {
        if (!got.equals(want)) {
            wrong++;
            System.out.println(what + " is\n" + got + "\ndue is\n" + want);
        }
    }

    private static boolean isSeen(int modifiers) {
        return !Modifier.isPrivate(modifiers);
    }

    private static String seenMembers() {
        Set<String> seen = new TreeSet<>();
        for (Constructor<?> c : StrandMapper.class.getDeclaredConstructors()) {
            if (isSeen(c.getModifiers())) {
                seen.add(c.toString());
            }
        }
        for (Method m : StrandMapper.class.getDeclaredMethods()) {
            if (isSeen(m.getModifiers())) {
                seen.add(m.toString());
            }
        }
        for (Field f : StrandMapper.class.getDeclaredFields()) {
            if (isSeen(f.getModifiers())) {
                seen.add(f.toString());
            }
        }
        return String.join("\n", seen);
    }

    private static void checkInnerClasses() {
        for (Class<?> inner : StrandMapper.class.getDeclaredClasses()) {
            int modifiers = inner.getModifiers();
            due(inner + " static", String.valueOf(Modifier.isStatic(modifiers)), "true");
            due(inner + " public or protected", String.valueOf(
                    Modifier.isPublic(modifiers) || Modifier.isProtected(modifiers)), "false");
        }
    }

    public static void main(String[] args) {
        due("the class", Modifier.toString(StrandMapper.class.getModifiers()), "public final");
        due("the package", StrandMapper.class.getPackageName(), "");
        due("the face", seenMembers(), FACE);
        checkInnerClasses();
        System.out.println(wrong == 0 ? "the face is as due" : wrong + " things are not as due");
        if (wrong != 0) {
            System.exit(1);
        }
    }
}
