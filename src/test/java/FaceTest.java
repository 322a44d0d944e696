import java.lang.reflect.Constructor;
import java.lang.reflect.Field;
import java.lang.reflect.Method;
import java.lang.reflect.Modifier;
import java.util.Set;
import java.util.TreeSet;

/** The public face is the document's and no more; the constants are as written. */
public final class FaceTest {
    private static final Set<String> FACE = Set.of(
            "public BoilerDesk()",
            "public void BoilerDesk.begin(int,int,int,int,int,int,int,int,int) throws java.lang.IllegalArgumentException",
            "public void BoilerDesk.level(int)",
            "public void BoilerDesk.steam(int)",
            "public void BoilerDesk.pump(int,boolean,boolean) throws java.lang.IllegalArgumentException",
            "public void BoilerDesk.say(int) throws java.lang.IllegalArgumentException",
            "public void BoilerDesk.unit(int,boolean) throws java.lang.IllegalArgumentException",
            "public int BoilerDesk.cycle() throws java.lang.IllegalStateException",
            "public int BoilerDesk.told(int) throws java.lang.IllegalArgumentException",
            "public int BoilerDesk.state(int) throws java.lang.IllegalArgumentException",
            "public static final int BoilerDesk.INITIAL",
            "public static final int BoilerDesk.NORMAL",
            "public static final int BoilerDesk.DEGRADED",
            "public static final int BoilerDesk.RESCUE",
            "public static final int BoilerDesk.STOPPED");

    public static void main(String[] args) {
        Checks checks = new Checks();
        checks.holds("the class is public and final",
                BoilerDesk.class.getModifiers() == (Modifier.PUBLIC | Modifier.FINAL));
        Set<String> found = new TreeSet<>();
        for (Constructor<?> member : BoilerDesk.class.getDeclaredConstructors()) {
            addUnlessPrivate(found, member.getModifiers(), member.toString());
        }
        for (Method member : BoilerDesk.class.getDeclaredMethods()) {
            addUnlessPrivate(found, member.getModifiers(), member.toString());
        }
        for (Field member : BoilerDesk.class.getDeclaredFields()) {
            addUnlessPrivate(found, member.getModifiers(), member.toString());
        }
        for (String member : FACE) {
            checks.holds("the face has " + member, found.contains(member));
        }
        for (String member : found) {
            checks.holds("the document has " + member, FACE.contains(member));
        }
        checks.equal("INITIAL", BoilerDesk.INITIAL, 0);
        checks.equal("NORMAL", BoilerDesk.NORMAL, 1);
        checks.equal("DEGRADED", BoilerDesk.DEGRADED, 2);
        checks.equal("RESCUE", BoilerDesk.RESCUE, 3);
        checks.equal("STOPPED", BoilerDesk.STOPPED, 4);
        checks.end();
    }

    private static void addUnlessPrivate(Set<String> found, int modifiers, String member) {
        if (!Modifier.isPrivate(modifiers)) {
            found.add(member);
        }
    }
}
