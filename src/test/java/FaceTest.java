import java.lang.reflect.Constructor;
import java.lang.reflect.Field;
import java.lang.reflect.Method;
import java.lang.reflect.Modifier;
import java.util.Set;
import java.util.TreeSet;

/** The public face: what the document gives, and no other member that is not private. */
public final class FaceTest {
    private static final Set<String> FACE = Set.of(
        "REFUSED", "FULL", "LOW", "DENIED", "TORN", "TapOffice()",
        "fare(int, int, int)", "set(int, int)", "place(int, int, boolean)", "clock(int)",
        "tap(int, int, int)", "topUp(int, int)", "upload(int, boolean)", "deny(int, boolean)",
        "word(int, int, int)", "card(int, int)", "logged(int, int, int)", "office(int, int)",
        "income(int)", "count(int)");

    public static void main(String[] args) {
        Checks checks = new Checks();
        checks.due("REFUSED", TapOffice.REFUSED, -1);
        checks.due("FULL", TapOffice.FULL, -2);
        checks.due("LOW", TapOffice.LOW, -3);
        checks.due("DENIED", TapOffice.DENIED, -4);
        checks.due("TORN", TapOffice.TORN, -5);
        Set<String> seen = visibleMembers();
        System.out.println(seen.equals(FACE) ? "the face is the document's" : "the face is " + seen);
        checks.due("differences of the face", seen.equals(FACE) ? 0 : 1, 0);
        checks.finish();
    }

    private static Set<String> visibleMembers() {
        Set<String> seen = new TreeSet<>();
        for (Field field : TapOffice.class.getDeclaredFields()) {
            if (!Modifier.isPrivate(field.getModifiers())) {
                seen.add(field.getName());
            }
        }
        for (Method method : TapOffice.class.getDeclaredMethods()) {
            if (!Modifier.isPrivate(method.getModifiers())) {
                seen.add(method.getName() + heads(method.getParameterTypes()));
            }
        }
        for (Constructor<?> constructor : TapOffice.class.getDeclaredConstructors()) {
            if (!Modifier.isPrivate(constructor.getModifiers())) {
                seen.add("TapOffice" + heads(constructor.getParameterTypes()));
            }
        }
        return seen;
    }

    private static String heads(Class<?>[] types) {
        StringBuilder text = new StringBuilder("(");
        for (int i = 0; i < types.length; i++) {
            text.append(i == 0 ? "" : ", ").append(types[i].getName());
        }
        return text.append(")").toString();
    }
}
