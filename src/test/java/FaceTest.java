import java.lang.reflect.Constructor;
import java.lang.reflect.Field;
import java.lang.reflect.Method;
import java.lang.reflect.Modifier;
import java.util.Arrays;
import java.util.TreeSet;

/** The public face of the document, and rule 1 of LANGUAGE.md: these members and no others. */
public final class FaceTest {
    private static final Check check = new Check();
    private static final String[] FACE = {
        "public static final int BuildDisk.NONE",
        "public BuildDisk(int)",
        "public int BuildDisk.start()",
        "public int BuildDisk.row(int,long)",
        "public int BuildDisk.asks(int,int)",
        "public int BuildDisk.sync()",
        "public int BuildDisk.compact(int)",
        "public void BuildDisk.cut(int,int)",
        "public long BuildDisk.digest(int)",
        "public int BuildDisk.asked(int,int)",
        "public boolean BuildDisk.sure(int)",
        "public byte BuildDisk.sector(int,int) throws java.lang.ArrayIndexOutOfBoundsException",
        "public int BuildDisk.poke(int,int)",
        "public int BuildDisk.wrong()",
        "public int BuildDisk.lock(int)",
        "public int BuildDisk.dead(int)",
        "public int BuildDisk.edition(int)",
        "public int BuildDisk.about(int)"};

    public static void main(String[] args) {
        check.about("the face");
        TreeSet<String> found = new TreeSet<>();
        for (Field f : BuildDisk.class.getDeclaredFields()) {
            if (!Modifier.isPrivate(f.getModifiers()) && !f.isSynthetic()) {
                found.add(f.toString());
            }
        }
        for (Constructor<?> c : BuildDisk.class.getDeclaredConstructors()) {
            if (!Modifier.isPrivate(c.getModifiers()) && !c.isSynthetic()) {
                found.add(c.toString());
            }
        }
        TreeSet<String> open = new TreeSet<>();
        TreeSet<String> hidden = new TreeSet<>();
        for (Method m : BuildDisk.class.getDeclaredMethods()) {
            if (m.isSynthetic()) {
                continue;
            }
            if (Modifier.isPrivate(m.getModifiers())) {
                hidden.add(m.getName());
            } else {
                open.add(m.getName());
                found.add(m.toString());
            }
        }
        TreeSet<String> want = new TreeSet<>(Arrays.asList(FACE));
        for (String member : want) {
            check.due("has " + member, found.contains(member), true);
        }
        for (String member : found) {
            check.due("is to have " + member, want.contains(member), true);
        }
        for (String name : hidden) {
            check.due("has a private method with the name of a public one, " + name, open.contains(name), false);
        }
        int modifiers = BuildDisk.class.getModifiers();
        check.due("public and final", Modifier.isPublic(modifiers) && Modifier.isFinal(modifiers), true);
        check.end();
    }
}
