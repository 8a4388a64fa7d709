import java.lang.reflect.Constructor;
import java.lang.reflect.Field;
import java.lang.reflect.Method;
import java.lang.reflect.Modifier;
import java.util.Arrays;
import java.util.HashSet;
import java.util.Set;
import java.util.TreeSet;

/** The public face is the document's and no more; what is inside keeps to LANGUAGE.md as far as can be seen from outside. */
public final class FaceTest {
    private static final String[] FACE = {
        "int feed(int,int,int,int,int)", "boolean end(int)", "int post()", "int fault()", "int much(int,int)",
        "int parcel(int,int)", "int person(int,int)", "int need(int)", "int quarrels(int)", "int now(int)",
        "int sit(int,int)", "int stand(int)", "int wish(int,int)", "int guess(int,int)", "int open(int)",
        "int carry(int,int)", "int days(int)", "int undo()", "int when(int,int)", "int sitters(int,int,int)",
        "int sitting()", "int sat()", "int surely()", "int ask()", "int let(int)", "int rooms()", "int roomOf(int)",
        "int rest()", "int rested(int)", "int greatest()", "int tag(int)", "int byteAt(int)", "int drawn(int,int)",
        "int odds(int,int,int,int)", "int book(int)", "int told(int)", "int sentence()", "int said(int)",
        "boolean image(int)", "boolean restore(int)", "int count(int)"};

    public static void main(String[] args) {
        Check.is("NONE", WonderParcels.NONE, -1);
        methods();
        fields();
        inside();
        Check.end("FaceTest");
    }

    private static void methods() {
        Set<String> due = new TreeSet<>(Arrays.asList(FACE));
        Set<String> found = new TreeSet<>();
        Set<String> names = new HashSet<>();
        for (Method m : WonderParcels.class.getDeclaredMethods()) {
            if (!Modifier.isPrivate(m.getModifiers())) {
                found.add(described(m));
                names.add(m.getName());
            }
        }
        Check.is("the methods of the face", found.toString(), due.toString());
        for (Method m : WonderParcels.class.getDeclaredMethods()) {
            Check.is("a private method has a public one's name: " + m.getName(),
                    Modifier.isPrivate(m.getModifiers()) && names.contains(m.getName()), false);
        }
        Constructor<?>[] made = WonderParcels.class.getDeclaredConstructors();
        Check.is("constructors", made.length, 1);
        Check.is("parameters of the constructor", made[0].getParameterCount(), 0);
        Check.is("the class is public and final", WonderParcels.class.getModifiers(), Modifier.PUBLIC | Modifier.FINAL);
    }

    private static String described(Method m) {
        StringBuilder text = new StringBuilder();
        text.append(m.getReturnType()).append(' ').append(m.getName()).append('(');
        for (int k = 0; k < m.getParameterCount(); k++) {
            text.append(k > 0 ? "," : "").append(m.getParameterTypes()[k]);
        }
        return text.append(')').toString();
    }

    private static void fields() {
        for (Field f : WonderParcels.class.getDeclaredFields()) {
            boolean none = f.getName().equals("NONE");
            Check.is("field " + f.getName() + " is private", Modifier.isPrivate(f.getModifiers()), !none);
        }
    }

    private static void inside() {
        for (Class<?> c : WonderParcels.class.getDeclaredClasses()) {
            Check.is(c + " is static", Modifier.isStatic(c.getModifiers()), true);
            Check.is(c + " is public", Modifier.isPublic(c.getModifiers()), false);
            int own = 0;
            for (Field f : c.getDeclaredFields()) {
                boolean constant = Modifier.isStatic(f.getModifiers());
                Check.is(f + ": static fields are final", constant && !Modifier.isFinal(f.getModifiers()), false);
                own += constant ? 0 : 1;
            }
            Check.is(c + " has some twenty fields", own <= 20, true);
            for (Method m : c.getDeclaredMethods()) {
                Check.is(m + " takes at most seven", m.getParameterCount() <= 7, true);
            }
        }
        Check.is("some twelve classes", WonderParcels.class.getDeclaredClasses().length < 12, true);
    }
}
