import java.lang.reflect.Constructor;
import java.lang.reflect.Field;
import java.lang.reflect.Member;
import java.lang.reflect.Method;
import java.lang.reflect.Modifier;

/** The face of the document: its constants, its constructor, its methods, and nothing else. */
public final class FaceTest {

    private static final Checks CHECKS = new Checks();
    private static final String[] CONSTANTS = {
        "DONE", "NULL", "ARGUMENT", "FINAL", "TARGET", "MISSING", "ABSTRACT", "CAST"};
    private static final String METHODS = "cast(int,int)int get(int,int)int getAs(int,int,int)int "
        + "hold(int,int)int invoke(int,int,int,int)int last()long look(int,boolean)int "
        + "make(int,boolean,int)int put(int,int,long)int set(int,int,int)int typed(int,int,int)int "
        + "value(int)long ";

    public static void main(String[] args) throws ReflectiveOperationException {
        Class<?> program = MemberInspection.class;
        constantsHaveTheirValues(program);
        methodsAreThoseOfTheDocument(program);
        nothingElseIsOpen(program);
        classesInsideAreClosed(program);
        CHECKS.end();
    }

    private static void constantsHaveTheirValues(Class<?> program) throws ReflectiveOperationException {
        CHECKS.sentence("Terms", "OUTCOMES: DONE and the refusals NULL, ARGUMENT, FINAL, TARGET, MISSING, ABSTRACT, CAST.");
        for (int i = 0; i < CONSTANTS.length; i++) {
            CHECKS.due(CONSTANTS[i], program.getField(CONSTANTS[i]).getInt(null), i);
        }
        CHECKS.due("REFUSED", program.getField("REFUSED").getInt(null), -1);
        CHECKS.due("number of public constants", program.getFields().length, CONSTANTS.length + 1);
    }

    private static void methodsAreThoseOfTheDocument(Class<?> program) {
        CHECKS.sentence("LANGUAGE.md, rule 1", "the public constructor, methods and constants of the document "
            + "and no other public, protected or package-visible member");
        int found = 0;
        for (Method method : program.getDeclaredMethods()) {
            if (Modifier.isPublic(method.getModifiers())) {
                found++;
                CHECKS.due("public " + signatureOf(method), METHODS.indexOf(signatureOf(method)) < 0 ? 0 : 1, 1);
            } else {
                CHECKS.due("private " + method.getName(), (" " + METHODS).contains(" " + method.getName() + "(") ? 1 : 0, 0);
            }
        }
        CHECKS.due("number of public methods", found, METHODS.split(" ").length);
    }

    private static String signatureOf(Method method) {
        StringBuilder text = new StringBuilder(method.getName()).append('(');
        String comma = "";
        for (Class<?> type : method.getParameterTypes()) {
            text.append(comma).append(type.getName());
            comma = ",";
        }
        return text.append(')').append(method.getReturnType().getName()).append(' ').toString();
    }

    private static void nothingElseIsOpen(Class<?> program) {
        Constructor<?>[] constructors = program.getDeclaredConstructors();
        CHECKS.due("number of constructors", constructors.length, 1);
        CHECKS.due("parameters of the constructor", constructors[0].getParameterCount(), 0);
        CHECKS.due("final class", Modifier.isFinal(program.getModifiers()) ? 1 : 0, 1);
        for (Method method : program.getDeclaredMethods()) {
            dueClosed(method);
        }
        for (Field field : program.getDeclaredFields()) {
            dueClosed(field);
            boolean isOpenState = Modifier.isStatic(field.getModifiers()) && !Modifier.isFinal(field.getModifiers());
            CHECKS.due("static state " + field.getName(), isOpenState ? 1 : 0, 0);
        }
    }

    private static void classesInsideAreClosed(Class<?> program) {
        CHECKS.sentence("LANGUAGE.md, rule 1", "the classes inside it, which are private or package-visible and static.");
        for (Class<?> inside : program.getDeclaredClasses()) {
            int modifiers = inside.getModifiers();
            boolean isOpen = Modifier.isPublic(modifiers) || Modifier.isProtected(modifiers);
            CHECKS.due(inside.getName() + " is open", isOpen ? 1 : 0, 0);
            CHECKS.due(inside.getName() + " is static", Modifier.isStatic(modifiers) ? 1 : 0, 1);
        }
    }

    private static void dueClosed(Member member) {
        int modifiers = member.getModifiers();
        boolean isClosed = Modifier.isPublic(modifiers) || Modifier.isPrivate(modifiers) || member.isSynthetic();
        CHECKS.due(member.getName() + " is public or private", isClosed ? 1 : 0, 1);
    }
}
