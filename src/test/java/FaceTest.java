import java.lang.reflect.Constructor;
import java.lang.reflect.Field;
import java.lang.reflect.Method;
import java.lang.reflect.Modifier;
import java.util.Set;
import java.util.TreeSet;

/** The public face: every constant, the constructor and every method of the document, and no other member to be seen. */
public final class FaceTest {
    private static final String[] FACE = {
        "int later(int)", "int fellow()", "int post(int,int,int)", "int paper(int,int,int,int,int)",
        "int note(int,int,int)", "int open(int,int,int)", "int told(int,int)", "int mark(int,int)",
        "int known(int,int,int)", "int statute(int,int,boolean)", "int force(int)", "int when(int,int,int,boolean)",
        "int first(int,int,int)", "int mean()", "int byelaw(int,int,int,int,int,int)", "int candidate(int)",
        "int propose(int,int)", "int withdraw(int)", "int ballot(int,int,int)", "int medal(int,int,int)",
        "int award(int,int)", "int medals(int,int)", "int stock(int,int,int)", "int copies(int,int)",
        "int sheet(int,int)", "int lay(int,int,int)", "int tear(int)", "int copy(int,int,int,int,int)",
        "int fill(int,int)", "int lacks()", "int swaps(int)", "int whole()", "int asked()", "int count(int)",
        "int finding()", "int findings(int)", "long digest()",
        "= BAD -1", "= FULL -2", "= FINDING -3", "= STATE -4", "= NONE -9",
    };

    public static void main(String[] args) throws Exception {
        Set<String> due = new TreeSet<>(Set.of(FACE));
        Set<String> seen = new TreeSet<>();
        Set<String> names = new TreeSet<>();
        for (Method m : SocietyBook.class.getDeclaredMethods()) {
            if (!Modifier.isPrivate(m.getModifiers())) {
                seen.add(told(m));
                names.add(m.getName());
                Due.isTrue(m.getName() + " is public and of the object", m.getModifiers() == Modifier.PUBLIC);
            }
        }
        for (Field f : SocietyBook.class.getDeclaredFields()) {
            if (!Modifier.isPrivate(f.getModifiers())) {
                seen.add("= " + f.getName() + " " + f.getInt(null));
                Due.isTrue(f.getName() + " is final", Modifier.isFinal(f.getModifiers()));
            }
        }
        for (String member : due) {
            Due.isTrue("the face has " + member, seen.contains(member));
        }
        for (String member : seen) {
            Due.isTrue("the document has " + member, due.contains(member));
        }
        noPrivateNamesake(names);
        Constructor<?>[] made = SocietyBook.class.getDeclaredConstructors();
        Due.isTrue("one public constructor", made.length == 1 && Modifier.isPublic(made[0].getModifiers()));
        Due.isTrue("public and final", SocietyBook.class.getModifiers() == (Modifier.PUBLIC | Modifier.FINAL));
        for (Class<?> inside : SocietyBook.class.getDeclaredClasses()) {
            Due.isTrue(inside.getName() + " is static", Modifier.isStatic(inside.getModifiers()));
            boolean hidden = !Modifier.isPublic(inside.getModifiers()) && !Modifier.isProtected(inside.getModifiers());
            Due.isTrue(inside.getName() + " is private or package-visible", hidden);
        }
        Due.end("FaceTest");
    }

    private static void noPrivateNamesake(Set<String> names) {
        for (Method m : SocietyBook.class.getDeclaredMethods()) {
            mayBearItsName(m, names);
        }
        for (Class<?> inside : SocietyBook.class.getDeclaredClasses()) {
            for (Method m : inside.getDeclaredMethods()) {
                mayBearItsName(m, names);
            }
        }
    }

    private static void mayBearItsName(Method m, Set<String> names) {
        boolean namesake = Modifier.isPrivate(m.getModifiers()) && names.contains(m.getName());
        Due.isTrue(m + " bears no public name", !namesake);
    }

    private static String told(Method m) {
        StringBuilder types = new StringBuilder();
        for (Class<?> type : m.getParameterTypes()) {
            types.append(types.length() == 0 ? "" : ",").append(type.getName());
        }
        return m.getReturnType().getName() + " " + m.getName() + "(" + types + ")";
    }
}
