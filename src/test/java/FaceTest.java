import java.lang.reflect.Constructor;
import java.lang.reflect.Field;
import java.lang.reflect.Method;
import java.lang.reflect.Modifier;
import java.nio.file.Files;
import java.nio.file.Path;
import java.util.ArrayList;
import java.util.Collections;
import java.util.HashSet;
import java.util.List;
import java.util.Set;

/** The public face, and those rules of LANGUAGE.md that can be seen from outside. */
final class FaceTest {
    private static final String INDEX = "IndexOutOfBoundsException";
    private static final String ARGUMENT = "IllegalArgumentException";
    private static final String STATE = "IllegalStateException";

    private FaceTest() {
    }

    static void run(String source) throws Exception {
        onlyTheFaceIsPublic();
        classesInsideAreKept();
        sourceKeepsToTheLanguage(source);
    }

    private static List<String> face() {
        List<String> face = new ArrayList<>();
        add(face, "int bench(int)", ARGUMENT);
        add(face, "int war(int)", ARGUMENT);
        add(face, "int land(int)", ARGUMENT);
        add(face, "int village(int,int,int,int)", ARGUMENT, STATE);
        add(face, "int company(int,int)", ARGUMENT, STATE);
        add(face, "int pass(int)", ARGUMENT, STATE);
        add(face, "int recall()");
        add(face, "int call()");
        add(face, "boolean isSound()");
        add(face, "long digest()");
        for (String one : new String[] {"int survey(int)", "int cut(int)", "int quarter(int)", "boolean clerks(int,boolean)",
            "int due(int,int,boolean)", "int partner(int,int,boolean)", "java.lang.String tell(int)", "double gain(int)",
            "int bestForce(int)", "int direct(int)"}) {
            add(face, one, INDEX);
        }
        for (String one : new String[] {"int award(int)", "int sue(int,int)", "int remit(int)", "int wouldWin(int)"}) {
            add(face, one, INDEX, STATE);
        }
        for (String one : new String[] {"int clear(int,int)", "int edict(int,int,int)", "int ring(int,int)",
            "int force(int,int)", "int ofVillage(int,int)", "int levy(int,int,int)", "int law(int,int)",
            "int ofCompany(int,int)", "int ofLot(int,int)", "int wouldBring(int,int)", "int votes(int,int,int,int)",
            "int harvest(int,int)"}) {
            add(face, one, INDEX, ARGUMENT);
        }
        for (String one : new String[] {"int join(int,int)", "int shareOut(int,int)", "int lot(int,int,int,int)",
            "int bid(int,int,int)", "int letOn(int,int,int)", "int deliver(int,int)", "int gift(int,int)"}) {
            add(face, one, INDEX, ARGUMENT, STATE);
        }
        Collections.sort(face);
        return face;
    }

    private static void add(List<String> face, String signature, String... thrown) {
        face.add(signature + " " + List.of(thrown));
    }

    private static String signature(Method of) {
        StringBuilder types = new StringBuilder();
        for (Class<?> type : of.getParameterTypes()) {
            types.append(types.length() == 0 ? "" : ",").append(type.getName());
        }
        List<String> thrown = new ArrayList<>();
        for (Class<?> type : of.getExceptionTypes()) {
            thrown.add(type.getSimpleName());
        }
        return of.getReturnType().getName() + " " + of.getName() + "(" + types + ") " + thrown;
    }

    private static void onlyTheFaceIsPublic() {
        Check.is("the class is final", Modifier.isFinal(Publicanry.class.getModifiers()), true);
        List<String> publics = new ArrayList<>();
        Set<String> names = new HashSet<>();
        for (Method of : Publicanry.class.getDeclaredMethods()) {
            if (!Modifier.isPrivate(of.getModifiers())) {
                publics.add(signature(of));
                names.add(of.getName());
            }
        }
        Collections.sort(publics);
        Check.isText("the face", publics.toString(), face().toString());
        for (Method of : Publicanry.class.getDeclaredMethods()) {
            boolean isHidden = Modifier.isPrivate(of.getModifiers()) && names.contains(of.getName());
            Check.is("private " + of.getName() + " bears a public name", isHidden, false);
            Check.is("parameters of " + of.getName() + " are 7 at most", of.getParameterCount() <= 7, true);
        }
        Constructor<?>[] made = Publicanry.class.getDeclaredConstructors();
        Check.is("constructors", made.length, 1);
        Check.is("the constructor is public", Modifier.isPublic(made[0].getModifiers()), true);
    }

    private static void classesInsideAreKept() {
        Class<?>[] inside = Publicanry.class.getDeclaredClasses();
        Check.is("at most twelve classes", inside.length <= 11, true);
        fieldsAreKept(Publicanry.class);
        for (Class<?> one : inside) {
            Check.is(one.getName() + " is static", Modifier.isStatic(one.getModifiers()), true);
            Check.is(one.getName() + " is not public", Modifier.isPublic(one.getModifiers()), false);
            fieldsAreKept(one);
        }
    }

    private static void fieldsAreKept(Class<?> of) {
        int own = 0;
        for (Field one : of.getDeclaredFields()) {
            int kind = one.getModifiers();
            Check.is(one + " is private", Modifier.isPrivate(kind), true);
            Check.is(one + " is a constant, if it is static", !Modifier.isStatic(kind) || Modifier.isFinal(kind), true);
            own += Modifier.isStatic(kind) ? 0 : 1;
        }
        Check.is(of.getName() + " has some twenty fields at most", own <= 20, true);
    }

    private static void sourceKeepsToTheLanguage(String path) throws Exception {
        String source = Files.readString(Path.of(path));
        for (int k = 0; k < source.length(); k++) {
            if (source.charAt(k) > 127) {
                Check.is("a sign above 127 at " + k, false, true);
            }
        }
        for (String banned : new String[] {"import ", "package ", "->", "::", " try ", "catch", "finally", "synchronized",
            "assert ", "Exact(", "System.", "protected", "\" +", "+ \"", "getMessage"}) {
            Check.is("the source holds " + banned, source.contains(banned), false);
        }
    }
}
