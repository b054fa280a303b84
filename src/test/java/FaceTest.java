import java.lang.reflect.Constructor;
import java.lang.reflect.Field;
import java.lang.reflect.Method;
import java.lang.reflect.Modifier;
import java.util.ArrayList;
import java.util.List;
import java.util.TreeSet;

/** The public face: just the constructor and the methods of the document, and nothing else that others can see. */
public final class FaceTest {
    private static final String[] FACE = {
        "int addUnit(int) IllegalArgumentException UnsupportedOperationException IllegalStateException",
        "int addWall(int,int) IndexOutOfBoundsException IllegalArgumentException UnsupportedOperationException",
        "int plan(int,int) IndexOutOfBoundsException IllegalArgumentException UnsupportedOperationException",
        "boolean rest(int,int) IndexOutOfBoundsException UnsupportedOperationException IllegalArgumentException",
        "int notice(int,int) IndexOutOfBoundsException UnsupportedOperationException IllegalArgumentException",
        "char work(int) IndexOutOfBoundsException NoSuchElementException",
        "int left(int) IndexOutOfBoundsException NoSuchElementException",
        "char whyNot(int) IndexOutOfBoundsException NoSuchElementException",
        "int begin(int) IndexOutOfBoundsException UnsupportedOperationException",
        "int find(int,int) IndexOutOfBoundsException IllegalArgumentException UnsupportedOperationException",
        "int addShop(int,int,int,boolean,int,int) IndexOutOfBoundsException IllegalArgumentException "
            + "UnsupportedOperationException IllegalStateException",
        "char state(int) IndexOutOfBoundsException",
        "int unitOf(int) IndexOutOfBoundsException NoSuchElementException",
        "int homeOf(int) IndexOutOfBoundsException",
        "int move(int,int) IndexOutOfBoundsException UnsupportedOperationException",
        "int toStall(int) IndexOutOfBoundsException UnsupportedOperationException",
        "int store(int) IndexOutOfBoundsException UnsupportedOperationException",
        "boolean comes(int) IndexOutOfBoundsException",
        "int mayBeShut(int) IndexOutOfBoundsException",
        "int seen(int) IndexOutOfBoundsException",
        "int known(int) IndexOutOfBoundsException",
        "boolean isDusty(int) IndexOutOfBoundsException",
        "int flow(int) IndexOutOfBoundsException",
        "int room(int) IndexOutOfBoundsException",
        "boolean areWide()",
        "int setPeople(int,int) IllegalArgumentException",
        "int pass(int) IllegalArgumentException UnsupportedOperationException IllegalStateException",
        "int day()",
        "int addCrew(char) IllegalArgumentException IllegalStateException",
        "int send(int,int) IndexOutOfBoundsException",
        "boolean canWork(int) IndexOutOfBoundsException",
        "int strike(int) IllegalArgumentException",
        "int lostDays(int,char) IndexOutOfBoundsException IllegalArgumentException",
        "int shortest() UnsupportedOperationException",
        "int startIn(int) IndexOutOfBoundsException UnsupportedOperationException NoSuchElementException",
        "long took(int) IndexOutOfBoundsException",
        "long lost(int,char) IndexOutOfBoundsException IllegalArgumentException",
        "long rent(int) IndexOutOfBoundsException",
        "long fund()",
        "long checksum()",
        "float openShare() NoSuchElementException",
        "double meanTaken() NoSuchElementException",
        "boolean isSound()",
    };

    public static void main(String[] args) {
        Class<?> face = TwofrontArcade.class;
        Due.is("the class is public and final", Modifier.toString(face.getModifiers()), "public final");
        Due.is("constructors", face.getDeclaredConstructors().length, 1);
        Constructor<?> constructor = face.getDeclaredConstructors()[0];
        Due.is("the constructor is public", Modifier.isPublic(constructor.getModifiers()), true);
        Due.is("the constructor takes nothing", constructor.getParameterCount(), 0);
        methods(face);
        fields(face);
        classesInside(face);
        Due.end("FaceTest");
    }

    private static void methods(Class<?> face) {
        List<String> publicOnes = new ArrayList<>();
        for (Method method : face.getDeclaredMethods()) {
            if (Modifier.isPublic(method.getModifiers())) {
                publicOnes.add(told(method));
            } else {
                Due.is(method.getName() + " is private", Modifier.isPrivate(method.getModifiers()), true);
                Due.is(method.getName() + " has a name of its own", isOfFace(method.getName()), false);
            }
        }
        TreeSet<String> want = new TreeSet<>(List.of(FACE));
        Due.is("the public methods", new TreeSet<>(publicOnes).toString(), want.toString());
        Due.is("how many there are", publicOnes.size(), FACE.length);
    }

    private static String told(Method method) {
        StringBuilder text = new StringBuilder(method.getReturnType().getName());
        text.append(' ').append(method.getName()).append('(');
        for (int i = 0; i < method.getParameterCount(); i++) {
            text.append(i == 0 ? "" : ",").append(method.getParameterTypes()[i].getName());
        }
        text.append(')');
        for (Class<?> exception : method.getExceptionTypes()) {
            text.append(' ').append(exception.getSimpleName());
        }
        return text.toString();
    }

    private static boolean isOfFace(String name) {
        for (String method : FACE) {
            if (method.contains(" " + name + "(")) {
                return true;
            }
        }
        return false;
    }

    private static void fields(Class<?> holder) {
        for (Field field : holder.getDeclaredFields()) {
            Due.is(field.getName() + " is private", Modifier.isPrivate(field.getModifiers()), true);
            boolean isConstant = Modifier.isFinal(field.getModifiers());
            Due.is(field.getName() + " is no static state", Modifier.isStatic(field.getModifiers()) && !isConstant,
                    false);
        }
    }

    private static void classesInside(Class<?> face) {
        for (Class<?> inside : face.getDeclaredClasses()) {
            Due.is(inside + " is private", Modifier.isPrivate(inside.getModifiers()), true);
            Due.is(inside + " is static", Modifier.isStatic(inside.getModifiers()), true);
            fields(inside);
            for (Method method : inside.getDeclaredMethods()) {
                Due.is(method.getName() + " has a name of its own", isOfFace(method.getName()), false);
            }
        }
    }
}
