import java.lang.reflect.Constructor;
import java.lang.reflect.Field;
import java.lang.reflect.Method;
import java.lang.reflect.Modifier;
import java.util.Set;
import java.util.TreeSet;

/** The public face is the document's, member for member, and nothing else can be seen from outside. */
public final class FaceTest {
    private static final String[] FACE = {
        "public int BoxChoice.box(int,int,int,int) throws IllegalArgumentException,UnsupportedOperationException",
        "public int BoxChoice.unit(int,int,int) throws IllegalArgumentException,UnsupportedOperationException",
        "public int BoxChoice.group(int,int,int) throws NoSuchElementException,IllegalArgumentException",
        "public int BoxChoice.change(int,int) throws NoSuchElementException,IllegalArgumentException",
        "public void BoxChoice.slack(int) throws IllegalArgumentException",
        "public int BoxChoice.choose(int) throws IllegalArgumentException",
        "public boolean BoxChoice.exact()",
        "public int BoxChoice.boxes()",
        "public int BoxChoice.chosen(int,int) throws NoSuchElementException,IllegalArgumentException",
        "public int BoxChoice.where(int) throws NoSuchElementException",
        "public int BoxChoice.bar(int) throws NoSuchElementException",
        "public boolean BoxChoice.fits(int,int) throws NoSuchElementException",
        "public int BoxChoice.used(int) throws IllegalArgumentException,IllegalStateException,ArithmeticException",
        "public int BoxChoice.dimensional(int,int) "
            + "throws NoSuchElementException,IllegalArgumentException,ArithmeticException",
        "public int BoxChoice.count(int)"};

    private static int wrong = 0;

    private static void need(boolean holds, String what) {
        if (!holds) {
            wrong++;
            System.out.println("not so: " + what);
        }
    }

    private static String plain(Method method) {
        return method.toString().replace("java.lang.", "").replace("java.util.", "");
    }

    private static void methodsAreTheFace() {
        Set<String> open = new TreeSet<>();
        Set<String> openNames = new TreeSet<>();
        for (Method method : BoxChoice.class.getDeclaredMethods()) {
            if (!Modifier.isPrivate(method.getModifiers())) {
                open.add(plain(method));
                openNames.add(method.getName());
            }
        }
        need(open.equals(new TreeSet<>(Set.of(FACE))), "the face is the document's, it is " + open);
        for (Method method : BoxChoice.class.getDeclaredMethods()) {
            boolean hidden = Modifier.isPrivate(method.getModifiers());
            need(!hidden || !openNames.contains(method.getName()), "a name of its own for private " + method);
        }
    }

    private static void nothingElseIsOpen() {
        need(Modifier.isPublic(BoxChoice.class.getModifiers()), "the class is public");
        need(Modifier.isFinal(BoxChoice.class.getModifiers()), "the class is final");
        Constructor<?>[] constructors = BoxChoice.class.getDeclaredConstructors();
        need(constructors.length == 1 && constructors[0].toString().equals("public BoxChoice()"), "one constructor");
        for (Field field : BoxChoice.class.getDeclaredFields()) {
            need(Modifier.isPrivate(field.getModifiers()), "private is " + field);
        }
        for (Class<?> inside : BoxChoice.class.getDeclaredClasses()) {
            need(Modifier.isStatic(inside.getModifiers()), "static is " + inside);
            need(!Modifier.isPublic(inside.getModifiers()), "not public is " + inside);
        }
    }

    private static void staticFieldsAreFinal() {
        for (Field field : BoxChoice.class.getDeclaredFields()) {
            int kept = field.getModifiers();
            need(!Modifier.isStatic(kept) || Modifier.isFinal(kept), "final is static " + field);
        }
        for (Class<?> inside : BoxChoice.class.getDeclaredClasses()) {
            for (Field field : inside.getDeclaredFields()) {
                int kept = field.getModifiers();
                need(!Modifier.isStatic(kept) || Modifier.isFinal(kept), "final is static " + field);
            }
        }
    }

    public static void main(String[] args) {
        methodsAreTheFace();
        nothingElseIsOpen();
        staticFieldsAreFinal();
        System.out.println(wrong == 0 ? "the face is as due" : wrong + " things are not as due");
        if (wrong != 0) {
            System.exit(1);
        }
    }
}
