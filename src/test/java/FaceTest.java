import java.lang.reflect.Constructor;
import java.lang.reflect.Field;
import java.lang.reflect.Method;
import java.lang.reflect.Modifier;
import java.util.Set;
import java.util.TreeSet;

/** The class has the document's face and nothing else that can be seen from outside. */
public final class FaceTest {
    private static final String[] FACE = {
        "int person(int)", "int land(int,int,int,int)", "int scale(int,int)", "int prices(int,int)",
        "int dies(int,int)", "int earn(int,int,int,int)", "int right(int,int,int,int)",
        "int earnings(int,int,int)", "int act(int,int,int,int,int,int)", "int force(int,int,int,int)",
        "int loan(int,int,int,int,boolean)", "int leave(int,int)", "int move(int,int,int)",
        "int planOf(int,int)", "long owes(int,int,int,int)", "long all(int,int,int,int)",
        "int rate(int,int,int)", "long over(int,int,int)", "int write(int,int)", "int erase(int)",
        "int fault(int)", "int sell(int,int,int)", "int promise(int,int,int)",
        "long book(int,int,int,int)", "int live(int,int,int,int)", "int early(int,int,int,int)",
        "long choice(int,int,int,int,int)", "int chances(int,int,int,int,int)",
        "long foretold(int,int,int,int,int,int)", "long tried(int,int,int,int,int)", "int tell(int)",
        "int untell()", "int best(int,int,int,int,int,long)", "int image(int)", "int from(int)",
        "int count(int)", "long digest()",
    };

    public static void main(String[] args) {
        Due due = new Due();
        Set<String> face = new TreeSet<>(Set.of(FACE));
        Set<String> names = new TreeSet<>();
        for (String call : FACE) {
            names.add(call.substring(call.indexOf(' ') + 1, call.indexOf('(')));
        }
        Set<String> seen = new TreeSet<>();
        for (Method method : LearnLoans.class.getDeclaredMethods()) {
            if (Modifier.isPublic(method.getModifiers())) {
                seen.add(told(method));
            } else if (!method.isSynthetic()) {
                due.holds("private: " + method, Modifier.isPrivate(method.getModifiers()));
                due.holds("a name of its own: " + method, !names.contains(method.getName()));
            }
        }
        due.holds("methods " + seen, seen.equals(face));
        constants(due);
        members(due);
        due.end("FaceTest");
    }

    private static String told(Method method) {
        StringBuilder text = new StringBuilder();
        text.append(method.getReturnType()).append(' ').append(method.getName()).append('(');
        String comma = "";
        for (Class<?> type : method.getParameterTypes()) {
            text.append(comma).append(type);
            comma = ",";
        }
        return text.append(')').toString();
    }

    private static void constants(Due due) {
        due.is("NONE", LearnLoans.NONE, -1);
        due.is("BAD", LearnLoans.BAD, -2);
        due.is("NO", LearnLoans.NO, -3);
        due.is("FULL", LearnLoans.FULL, -4);
        int open = 0;
        for (Field field : LearnLoans.class.getDeclaredFields()) {
            boolean isPublic = Modifier.isPublic(field.getModifiers());
            open += isPublic ? 1 : 0;
            due.holds("closed: " + field, isPublic || Modifier.isPrivate(field.getModifiers()));
            boolean isStatic = Modifier.isStatic(field.getModifiers());
            due.holds("final: " + field, !isStatic || Modifier.isFinal(field.getModifiers()));
        }
        due.is("public constants", open, 4);
    }

    private static void members(Due due) {
        int modifiers = LearnLoans.class.getModifiers();
        due.holds("final", Modifier.isFinal(modifiers) && Modifier.isPublic(modifiers));
        Constructor<?>[] made = LearnLoans.class.getDeclaredConstructors();
        due.is("constructors", made.length, 1);
        due.holds("public constructor", Modifier.isPublic(made[0].getModifiers()));
        due.is("its parameters", made[0].getParameterCount(), 0);
        Class<?>[] inside = LearnLoans.class.getDeclaredClasses();
        due.holds("some twelve classes", inside.length <= 11);
        for (Class<?> part : inside) {
            due.holds("static: " + part, Modifier.isStatic(part.getModifiers()));
            due.holds("not public: " + part, !Modifier.isPublic(part.getModifiers()));
            due.holds("some twenty fields: " + part, fieldsOf(part) <= 20);
        }
    }

    private static int fieldsOf(Class<?> part) {
        int fields = 0;
        for (Field field : part.getDeclaredFields()) {
            fields += Modifier.isStatic(field.getModifiers()) ? 0 : 1;
        }
        return fields;
    }
}
