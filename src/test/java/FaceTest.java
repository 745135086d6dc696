import java.lang.reflect.Constructor;
import java.lang.reflect.Member;
import java.lang.reflect.Method;
import java.lang.reflect.Modifier;
import java.util.ArrayList;
import java.util.Arrays;
import java.util.List;
import java.util.TreeSet;

/** The public face: just the document's members, with their types and exceptions. */
public final class FaceTest {
    private static final String I = "IndexOutOfBoundsException";
    private static final String A = "IllegalArgumentException";
    private static final String S = "IllegalStateException";
    private static final String U = "UnsupportedOperationException";
    private static final String N = "NoSuchElementException";

    private static final String[] FACE = {
        "int track() " + S,
        "int stretch(int,int,int) " + I + "," + A + "," + U + "," + S,
        "int car(int,int,int) " + A + "," + S,
        "int lengthOf(int) " + I,
        "int limitAt(int,int) " + I + "," + N,
        "int type(char,int) " + A + "," + S,
        "int wipe() ",
        "int drive(int,int,int,int) " + I + "," + N + "," + U + "," + S,
        "int tryOut(int,int) " + I + "," + U,
        "int laps() ",
        "int time(int,boolean) " + I,
        "int ticks(int) " + I,
        "char inputAt(int,int) " + I + "," + N,
        "int replay(int,int,boolean) " + I + "," + N,
        "int of(int,char) " + I + "," + A,
        "boolean beats(int) " + I + "," + N,
        "int least(int) " + I + "," + N,
        "int base(int) " + I + "," + N,
        "int depth(int) " + I,
        "int parts(int) " + I,
        "int stored() ",
        "int resting(int) " + I,
        "int strike(int) " + I + "," + U,
        "int giveBack(int) " + I + "," + U,
        "boolean stands(int) " + I,
        "int penalty(int,int) " + I + "," + A,
        "int round(int) " + I + "," + S,
        "int shut() " + S,
        "int lapIn(int,int) " + I + "," + N,
        "int placeIn(int,int) " + I + "," + N,
        "int drop(int) " + A,
        "int points(int) " + I,
        "int wins(int) " + I,
        "int standing(int) " + I,
        "long checksum() ",
        "float shareStored() " + N,
        "double meanTime() " + N,
        "boolean isSound() ",
    };

    public static void main(String[] args) {
        Class<?> face = Ghostracer.class;
        Check.same("the class", "public final", Modifier.toString(face.getModifiers()));
        Check.same("the constructors", "[public Ghostracer()]",
                Arrays.toString(face.getDeclaredConstructors()));
        TreeSet<String> told = new TreeSet<>();
        TreeSet<String> publicNames = new TreeSet<>();
        List<String> privateNames = new ArrayList<>();
        for (Method method : face.getDeclaredMethods()) {
            if (Modifier.isPrivate(method.getModifiers())) {
                privateNames.add(method.getName());
            } else {
                told.add(tell(method));
                publicNames.add(method.getName());
            }
        }
        Check.same("the methods", new TreeSet<>(Arrays.asList(FACE)), told);
        privateNames.retainAll(publicNames);
        Check.same("private methods by a public one's name", "[]", privateNames);
        membersAreHidden(face);
        Check.end("FaceTest");
    }

    private static String tell(Method method) {
        Check.same("public alone: " + method.getName(), "public",
                Modifier.toString(method.getModifiers()));
        return method.getReturnType().getSimpleName() + " " + method.getName() + "("
                + names(method.getParameterTypes()) + ") " + names(method.getExceptionTypes());
    }

    private static String names(Class<?>[] types) {
        StringBuilder names = new StringBuilder();
        for (Class<?> type : types) {
            names.append(names.length() == 0 ? "" : ",").append(type.getSimpleName());
        }
        return names.toString();
    }

    private static void membersAreHidden(Class<?> face) {
        for (Member field : face.getDeclaredFields()) {
            Check.same("private: " + field, true, Modifier.isPrivate(field.getModifiers()));
            boolean isState = Modifier.isStatic(field.getModifiers())
                    && !Modifier.isFinal(field.getModifiers());
            Check.same("static state: " + field, false, isState);
        }
        for (Class<?> inside : face.getDeclaredClasses()) {
            Check.same("private and static: " + inside, true,
                    Modifier.isPrivate(inside.getModifiers())
                    && Modifier.isStatic(inside.getModifiers()));
        }
        for (Constructor<?> constructor : face.getDeclaredConstructors()) {
            Check.same("the constructor throws nothing", 0, constructor.getExceptionTypes().length);
        }
    }
}
