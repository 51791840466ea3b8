import java.lang.reflect.Constructor;
import java.lang.reflect.Field;
import java.lang.reflect.Method;
import java.lang.reflect.Modifier;
import java.util.Arrays;
import java.util.Set;
import java.util.TreeSet;

/** The public face: the document's members with their exceptions, and no other that can be seen. */
public final class FaceTest {
    private static final String[] FACE = {
        "public static final int RatePasses.NONE",
        "public RatePasses(int)",
        "public int RatePasses.block() throws java.lang.UnsupportedOperationException",
        "public int RatePasses.pass(int,int,int) throws java.lang.IndexOutOfBoundsException,"
            + "java.lang.IllegalArgumentException,java.lang.UnsupportedOperationException",
        "public int RatePasses.weight(int,int) throws java.lang.IndexOutOfBoundsException,"
            + "java.lang.IllegalArgumentException",
        "public int RatePasses.shift(int,int) throws java.lang.IndexOutOfBoundsException,"
            + "java.lang.IllegalArgumentException",
        "public int RatePasses.size(int,int) throws java.lang.IndexOutOfBoundsException,"
            + "java.lang.IllegalArgumentException",
        "public int RatePasses.head(int,int) throws java.lang.IndexOutOfBoundsException,"
            + "java.lang.IllegalArgumentException",
        "public int RatePasses.run()",
        "public boolean RatePasses.hull(int,int) throws java.lang.IndexOutOfBoundsException",
        "public long RatePasses.slope(int,int,boolean) throws java.lang.IndexOutOfBoundsException",
        "public int RatePasses.row()",
        "public int RatePasses.at(int,int) throws java.lang.IndexOutOfBoundsException,"
            + "java.lang.IllegalArgumentException,java.lang.IllegalStateException",
        "public int RatePasses.passes(int,int) throws java.lang.IllegalStateException,"
            + "java.lang.IndexOutOfBoundsException",
        "public int RatePasses.bytes(int) throws java.lang.IllegalStateException,"
            + "java.lang.IndexOutOfBoundsException",
        "public long RatePasses.gained(int) throws java.lang.IllegalStateException,"
            + "java.lang.IndexOutOfBoundsException",
        "public int RatePasses.least(int) throws java.lang.IllegalArgumentException",
        "public int RatePasses.above(long,int) throws java.lang.IllegalArgumentException",
        "public int RatePasses.told(int)",
        "public void RatePasses.clear()",
    };

    public static void main(String[] args) {
        Set<String> seen = new TreeSet<>();
        for (Field field : RatePasses.class.getDeclaredFields()) {
            addUnlessPrivate(seen, field.getModifiers(), field.toString());
            if (Modifier.isStatic(field.getModifiers()) && !Modifier.isFinal(field.getModifiers())) {
                Check.say("a static field that is not final: " + field);
            }
        }
        for (Constructor<?> constructor : RatePasses.class.getDeclaredConstructors()) {
            addUnlessPrivate(seen, constructor.getModifiers(), constructor.toString());
        }
        for (Method method : RatePasses.class.getDeclaredMethods()) {
            addUnlessPrivate(seen, method.getModifiers(), method.toString());
        }
        Set<String> want = new TreeSet<>(Arrays.asList(FACE));
        for (String member : want) {
            if (!seen.contains(member)) {
                Check.say("not there: " + member);
            }
        }
        for (String member : seen) {
            if (!want.contains(member)) {
                Check.say("not in the document: " + member);
            }
        }
        Check.due("the class is public and final",
            RatePasses.class.getModifiers(), Modifier.PUBLIC | Modifier.FINAL);
        Check.due("NONE", RatePasses.NONE, -1);
        Check.end();
    }

    private static void addUnlessPrivate(Set<String> seen, int modifiers, String member) {
        if (!Modifier.isPrivate(modifiers)) {
            seen.add(member);
        }
    }
}
