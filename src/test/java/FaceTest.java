import java.lang.reflect.Constructor;
import java.lang.reflect.Field;
import java.lang.reflect.Method;
import java.lang.reflect.Modifier;
import java.util.ArrayList;
import java.util.Arrays;
import java.util.Collections;
import java.util.HashSet;
import java.util.List;
import java.util.Set;

/** The public face is the document's, and no other member can be seen from outside. */
public final class FaceTest {
    private static final String[] FACE = {
        "int putCutter(int,int,char,int,int) throws IndexOutOfBoundsException IllegalArgumentException UnsupportedOperationException",
        "boolean setFixture(int,int,int,boolean) throws IndexOutOfBoundsException",
        "int setOffset(int,int,int,int) throws IllegalArgumentException",
        "int addBlock(char,int,int,int) throws IllegalArgumentException IllegalStateException",
        "int dropBlock() throws IllegalStateException",
        "boolean isClosed() throws",
        "int run(int) throws IllegalArgumentException IllegalStateException",
        "int reset() throws",
        "char alarm() throws",
        "boolean isOver() throws",
        "int next() throws",
        "int done() throws",
        "int variable(int) throws IllegalArgumentException",
        "int at(int) throws IllegalArgumentException",
        "int cutter() throws",
        "int used(int,int) throws IndexOutOfBoundsException NoSuchElementException",
        "boolean has(int,int,int) throws IndexOutOfBoundsException",
        "boolean hasAnew(int,int,int) throws IndexOutOfBoundsException",
        "int stock() throws",
        "int height(int,int) throws IndexOutOfBoundsException",
        "long checksum() throws",
        "float time() throws",
        "int timeBits() throws",
        "double meanUse() throws ArithmeticException",
        "float taken() throws",
        "boolean isSound() throws",
    };

    public static void main(String[] args) {
        Check check = new Check();
        Class<?> face = ToolrestMill.class;
        check.due("modifiers", Modifier.toString(face.getModifiers()), "public final");
        check.due("superclass", face.getSuperclass(), Object.class);
        check.due("interfaces", face.getInterfaces().length, 0);

        List<String> methods = new ArrayList<>();
        Set<String> privateNames = new HashSet<>();
        for (Method method : face.getDeclaredMethods()) {
            if (Modifier.isPrivate(method.getModifiers())) {
                privateNames.add(method.getName());
            } else {
                methods.add(told(method));
                check.due(method.getName(), Modifier.toString(method.getModifiers()), "public");
            }
        }
        List<String> want = new ArrayList<>(Arrays.asList(FACE));
        Collections.sort(want);
        Collections.sort(methods);
        check.due("the methods", methods, want);
        for (String method : want) {
            String name = method.substring(method.indexOf(' ') + 1, method.indexOf('('));
            check.due("a private method named " + name, privateNames.contains(name), false);
        }

        Constructor<?>[] constructors = face.getDeclaredConstructors();
        check.due("constructors", constructors.length, 1);
        check.due("constructor", constructors[0].toString(), "public ToolrestMill()");
        for (Field field : face.getDeclaredFields()) {
            check.due(field.getName() + " is private", Modifier.isPrivate(field.getModifiers()), true);
        }
        for (Class<?> inner : face.getDeclaredClasses()) {
            int modifiers = inner.getModifiers();
            check.due(inner.getName() + " is hidden",
                    Modifier.isStatic(modifiers) && !Modifier.isPublic(modifiers) && !Modifier.isProtected(modifiers), true);
        }
        check.end();
    }

    private static String told(Method method) {
        StringBuilder text = new StringBuilder();
        text.append(method.getReturnType()).append(' ').append(method.getName()).append('(');
        Class<?>[] types = method.getParameterTypes();
        for (int i = 0; i < types.length; i++) {
            text.append(i == 0 ? "" : ",").append(types[i]);
        }
        text.append(") throws");
        for (Class<?> thrown : method.getExceptionTypes()) {
            text.append(' ').append(thrown.getSimpleName());
        }
        return text.toString();
    }
}
