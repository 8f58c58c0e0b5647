import java.lang.reflect.Constructor;
import java.lang.reflect.Field;
import java.lang.reflect.Member;
import java.lang.reflect.Method;
import java.lang.reflect.Modifier;
import java.util.ArrayList;
import java.util.Arrays;
import java.util.Collections;
import java.util.List;

/** The class shows the document's face and no other member. */
public final class FaceTest {
    private static final String IOOBE = " IndexOutOfBoundsException";
    private static final String IAE = " IllegalArgumentException";
    private static final String ISE = " IllegalStateException";

    private static final String[] FACE = {
        "begin(int):int" + IAE,
        "behind(int):long" + IOOBE,
        "clearScript():int",
        "cocircuit(int,int):int" + IAE + ISE + IOOBE,
        "completions():int" + ISE,
        "coordinate(int,int):int" + IAE + IOOBE,
        "count(int):int" + IAE,
        "derive():int",
        "digest():long",
        "drop(int,int,int):int" + IAE + ISE + IOOBE,
        "exchange(int,int):int" + IAE + IOOBE,
        "forget():int",
        "give(int,int,int,int):int" + IAE + IOOBE,
        "isExtreme(int):boolean" + IOOBE,
        "lines():int" + ISE,
        "mirror():int",
        "mismatches():int",
        "place(int,int,int):boolean" + IAE + IOOBE,
        "read():int",
        "reasons(int):long" + IOOBE,
        "relation(int,int):int" + IAE + IOOBE,
        "run():int",
        "scatter(int,int,int):int" + IAE,
        "setUniform(boolean):boolean",
        "sign(int,int,int):int" + IOOBE,
        "triple(int,int):int" + IAE + IOOBE,
        "turn(int):int" + IOOBE,
        "type(int):int" + IAE + ISE,
        "undo():int" + ISE,
        "written(int):int" + IAE,
    };

    public static void main(String[] args) throws IllegalAccessException, NoSuchFieldException {
        Class<?> face = TripleSigns.class;
        int modifiers = face.getModifiers();
        Check.due("public final", Modifier.isPublic(modifiers) && Modifier.isFinal(modifiers), true);
        List<String> seen = new ArrayList<>();
        List<String> hidden = new ArrayList<>();
        for (Method method : face.getDeclaredMethods()) {
            if (isSeen(method)) {
                seen.add(shape(method));
                Check.due(method.getName() + " is public", Modifier.isPublic(method.getModifiers()), true);
            } else {
                hidden.add(method.getName());
            }
        }
        Collections.sort(seen);
        List<String> wanted = Arrays.asList(FACE);
        if (!seen.equals(wanted)) {
            System.out.println("seen   " + seen + "\nwanted " + wanted);
        }
        Check.due("the methods of the face", seen.equals(wanted), true);
        for (Class<?> inner : face.getDeclaredClasses()) {
            Check.due(inner.getName() + " static", Modifier.isStatic(inner.getModifiers()), true);
            Check.due(inner.getName() + " inside",
                    Modifier.isPublic(inner.getModifiers()) || Modifier.isProtected(inner.getModifiers()), false);
            for (Method method : inner.getDeclaredMethods()) {
                hidden.add(method.getName());
            }
        }
        for (String line : FACE) {
            String name = line.substring(0, line.indexOf('('));
            Check.due("hidden methods named " + name, hidden.contains(name), false);
        }
        for (Field field : face.getDeclaredFields()) {
            Check.due("field " + field.getName(), isSeen(field), field.getName().equals("NONE"));
        }
        for (Constructor<?> constructor : face.getDeclaredConstructors()) {
            Check.due("constructor", Modifier.isPublic(constructor.getModifiers())
                    && constructor.getParameterCount() == 0, true);
        }
        Field none = face.getDeclaredField("NONE");
        Check.due("NONE is public static final", none.getModifiers(),
                Modifier.PUBLIC | Modifier.STATIC | Modifier.FINAL);
        Check.due("NONE", none.getInt(null), -100);
        Check.end("FaceTest");
    }

    private static boolean isSeen(Member member) {
        return !Modifier.isPrivate(member.getModifiers()) && !member.isSynthetic();
    }

    private static String shape(Method method) {
        List<String> types = new ArrayList<>();
        for (Class<?> type : method.getParameterTypes()) {
            types.add(type.getName());
        }
        List<String> thrown = new ArrayList<>();
        for (Class<?> type : method.getExceptionTypes()) {
            thrown.add(" " + type.getSimpleName());
        }
        Collections.sort(thrown);
        return method.getName() + "(" + String.join(",", types) + "):"
                + method.getReturnType().getName() + String.join("", thrown);
    }
}
