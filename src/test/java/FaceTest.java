import java.lang.reflect.Field;
import java.lang.reflect.Method;
import java.lang.reflect.Modifier;
import java.util.Set;
import java.util.TreeSet;

/** The class has the document's face, and no other member that can be seen from outside. */
public final class FaceTest {

    private static final String FACE = "int about(int)|int ask(int,int)|int back(int)|int best(int)|int brings(int)|int burdened()"
            + "|int counsels(int,int)|int cut(int)|int day()|int depth()|int end(int)|int fall(int)|int fault(int)"
            + "|int feed(int,int,int,int,int)|int firmest(int)|int gaps()|int holds(int)|int hollow()|int image(int)"
            + "|int keystone(int)|int lack(int)|int later(int)|int law(int)|int lies(int)|int mend(int,int)"
            + "|int moot(int,int,int)|int odds(int,int)|int path(int,int)|int perils(int,int)|int pivots(int)"
            + "|int point(int,int)|int power(int,int)|int proof(int)|int prop(int,int)|int prove(int)|int rank(int)"
            + "|int ring(int)|int roots(int)|int seen(int,boolean)|int shock(int)|int spare()|int stands()|int strand(int,int)"
            + "|int strike(int)|int suit()|int sure(int,int)|int tie(int)|int tight()|int tighten(int,int)|int topple(int,int)"
            + "|int ways(int)|int weakest()|int will(int,int)|int with(int)|int worth(int)|boolean redo()|boolean undo()"
            + "|boolean untell(int)";

    public static void main(String[] args) {
        Check check = new Check("face");
        Set<String> visible = new TreeSet<>();
        Set<String> publicNames = new TreeSet<>();
        for (Method method : EightReasons.class.getDeclaredMethods()) {
            if (!Modifier.isPrivate(method.getModifiers())) {
                visible.add(signature(method));
                publicNames.add(method.getName());
                check.is(Modifier.isPublic(method.getModifiers()), "public: " + method);
                check.is(!Modifier.isStatic(method.getModifiers()), "not static: " + method);
            }
        }
        check.due("the methods", visible.toString(), new TreeSet<>(Set.of(FACE.split("\\|"))).toString());
        check.due("how many methods", visible.size(), 58);
        privateNames(check, EightReasons.class, publicNames);
        for (Class<?> inner : EightReasons.class.getDeclaredClasses()) {
            check.is(Modifier.isStatic(inner.getModifiers()), "static: " + inner);
            check.is(!Modifier.isPublic(inner.getModifiers()) && !Modifier.isProtected(inner.getModifiers()), "hidden: " + inner);
            privateNames(check, inner, publicNames);
        }
        fields(check);
        check.is(Modifier.isFinal(EightReasons.class.getModifiers()), "the class is final");
        check.due("constructors", EightReasons.class.getDeclaredConstructors().length, 1);
        check.due("NONE", EightReasons.NONE, -1);
        check.close();
    }

    private static void fields(Check check) {
        for (Field field : EightReasons.class.getDeclaredFields()) {
            if (!Modifier.isPrivate(field.getModifiers())) {
                check.due("a visible field", field.getName(), "NONE");
            }
            if (Modifier.isStatic(field.getModifiers())) {
                check.is(Modifier.isFinal(field.getModifiers()), "final: " + field);
            }
        }
    }

    private static void privateNames(Check check, Class<?> where, Set<String> publicNames) {
        for (Method method : where.getDeclaredMethods()) {
            if (where != EightReasons.class || Modifier.isPrivate(method.getModifiers())) {
                check.is(!publicNames.contains(method.getName()), "bears the name of a public method: " + method);
            }
            check.is(method.getParameterCount() <= 7, "seven parameters at most: " + method);
        }
    }

    private static String signature(Method method) {
        StringBuilder text = new StringBuilder(method.getReturnType().getName()).append(' ').append(method.getName()).append('(');
        for (int i = 0; i < method.getParameterCount(); i++) {
            text.append(i == 0 ? "" : ",").append(method.getParameterTypes()[i].getName());
        }
        return text.append(')').toString();
    }
}
