import java.lang.reflect.Constructor;
import java.lang.reflect.Field;
import java.lang.reflect.Member;
import java.lang.reflect.Method;
import java.lang.reflect.Modifier;
import java.util.Set;
import java.util.TreeSet;

/** The public face: just the members of the document, no private method with a public name, no static state. */
public final class FaceTest {
    private static final Due due = new Due();
    private static final Set<String> FACE = Set.of(
        "public static final int StencilCompiler.DONE",
        "public static final int StencilCompiler.REFUSED",
        "public static final int StencilCompiler.FULL",
        "public static final int StencilCompiler.STATE",
        "public static final long StencilCompiler.NONE",
        "public StencilCompiler(int)",
        "public int StencilCompiler.input(int,int)",
        "public int StencilCompiler.stage(int,int)",
        "public int StencilCompiler.tap(int,int,int,int)",
        "public int StencilCompiler.mode(int,int)",
        "public int StencilCompiler.tile(int)",
        "public int StencilCompiler.output(int,int)",
        "public int StencilCompiler.compile()",
        "public int StencilCompiler.run()",
        "public long StencilCompiler.cell(int)",
        "public long StencilCompiler.at(int,int)",
        "public int StencilCompiler.region(int,boolean)",
        "public int StencilCompiler.work(int)",
        "public int StencilCompiler.count(int)");

    public static void main(String[] args) {
        due.part("the face");
        constants();
        members();
        due.holds("the class is public and final",
            (StencilCompiler.class.getModifiers() & (Modifier.PUBLIC | Modifier.FINAL))
                == (Modifier.PUBLIC | Modifier.FINAL));
        for (Class<?> inside : StencilCompiler.class.getDeclaredClasses()) {
            insideClass(inside);
        }
        due.end();
    }

    private static void constants() {
        due.is("DONE", StencilCompiler.DONE, 0);
        due.is("REFUSED", StencilCompiler.REFUSED, -1);
        due.is("FULL", StencilCompiler.FULL, -2);
        due.is("STATE", StencilCompiler.STATE, -3);
        due.is("NONE", StencilCompiler.NONE, -1000000000000L);
    }

    private static void members() {
        Set<String> found = new TreeSet<>();
        for (Field field : StencilCompiler.class.getDeclaredFields()) {
            gather(found, field, field.toString());
        }
        for (Constructor<?> constructor : StencilCompiler.class.getDeclaredConstructors()) {
            gather(found, constructor, constructor.toString());
        }
        for (Method method : StencilCompiler.class.getDeclaredMethods()) {
            gather(found, method, method.toString());
        }
        due.holds("just the document's members, not " + found, found.equals(FACE));
    }

    private static void gather(Set<String> found, Member member, String text) {
        if (!Modifier.isPrivate(member.getModifiers()) && !member.isSynthetic()) {
            found.add(text);
        } else if (member instanceof Method method) {
            noPublicName(method);
        }
        noStaticState(member);
    }

    private static void noStaticState(Member member) {
        int modifiers = member.getModifiers();
        if (member instanceof Field && Modifier.isStatic(modifiers)) {
            due.holds("static " + member.getName() + " is final", Modifier.isFinal(modifiers));
        }
    }

    private static void noPublicName(Method method) {
        for (String member : FACE) {
            due.holds(method.getName() + " is no public name", !member.contains("." + method.getName() + "("));
        }
    }

    private static void insideClass(Class<?> inside) {
        due.holds(inside.getName() + " is static", Modifier.isStatic(inside.getModifiers()));
        due.holds(inside.getName() + " is not public", !Modifier.isPublic(inside.getModifiers()));
        for (Method method : inside.getDeclaredMethods()) {
            noPublicName(method);
        }
        for (Field field : inside.getDeclaredFields()) {
            noStaticState(field);
        }
    }
}
