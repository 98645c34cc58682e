import java.lang.reflect.Constructor;
import java.lang.reflect.Field;
import java.lang.reflect.Member;
import java.lang.reflect.Method;
import java.lang.reflect.Modifier;
import java.util.ArrayList;
import java.util.Collections;
import java.util.List;

/** The public face: just the constructor and the methods that the document lists. */
public final class FaceTest {
    private static final String[] FACE = {
        "int type(int,int,int,int,int,int) IndexOutOfBounds IllegalArgument IllegalState",
        "int clear(int) IndexOutOfBounds",
        "int copy(int,int) IndexOutOfBounds",
        "int lay(int,int,int) IndexOutOfBounds",
        "int cut(int,int,int) IndexOutOfBounds IllegalArgument",
        "int turn(int) IndexOutOfBounds",
        "String text(int) IndexOutOfBounds",
        "int order(int,int) IndexOutOfBounds",
        "int count(int,int) IndexOutOfBounds",
        "int find(int,int,boolean) IndexOutOfBounds",
        "int rule(int,int) IndexOutOfBounds",
        "int falling(int,int) IndexOutOfBounds",
        "int drop(int) IndexOutOfBounds",
        "int noRules()",
        "int flip(int) IndexOutOfBounds",
        "int side(int,int,boolean) IndexOutOfBounds",
        "int rules()",
        "String ruleText(int) IndexOutOfBounds",
        "boolean falls(int) IndexOutOfBounds",
        "boolean areFalling()",
        "int step(int,int) IndexOutOfBounds IllegalArgument",
        "int run(int,int,int) IndexOutOfBounds IllegalArgument",
        "int pick(int,int) IndexOutOfBounds",
        "int unwind(int,int,int) IndexOutOfBounds",
        "int spots(int) IndexOutOfBounds",
        "String spot(int,int) IndexOutOfBounds",
        "boolean isEnd(int) IndexOutOfBounds",
        "String form(int) IndexOutOfBounds",
        "int told(int,int) IndexOutOfBounds",
        "int peaks()",
        "String peak(int)",
        "boolean meets(int) IndexOutOfBounds",
        "int unmet()",
        "int complete()",
        "int tidy()",
        "int house(int) IllegalArgument",
        "int knock()",
        "boolean isSound()",
        "long digest()",
    };

    public static void main(String[] args) {
        List<String> want = new ArrayList<>(List.of(FACE));
        List<String> got = new ArrayList<>();
        List<String> wrong = new ArrayList<>();
        for (Method method : Rewriterope.class.getDeclaredMethods()) {
            if (!method.isSynthetic() && !Modifier.isPrivate(method.getModifiers())) {
                got.add(written(method));
                notPublic(method, wrong);
            }
        }
        for (Field field : Rewriterope.class.getDeclaredFields()) {
            if (!field.isSynthetic() && !Modifier.isPrivate(field.getModifiers())) {
                wrong.add("a field that is not private: " + field.getName());
            }
        }
        for (Constructor<?> constructor : Rewriterope.class.getDeclaredConstructors()) {
            notPublic(constructor, wrong);
        }
        Collections.sort(want);
        Collections.sort(got);
        if (!want.equals(got)) {
            wrong.add("the face is " + got + ", due is " + want);
        }
        if (Rewriterope.class.getModifiers() != (Modifier.PUBLIC | Modifier.FINAL)) {
            wrong.add("the class is not public and final");
        }
        wrong.forEach(System.out::println);
        System.out.println("FaceTest: " + wrong.size() + " wrong");
        if (!wrong.isEmpty()) {
            System.exit(1);
        }
    }

    private static void notPublic(Member member, List<String> wrong) {
        if (member.getModifiers() != Modifier.PUBLIC) {
            wrong.add("not just public: " + member.getName());
        }
    }

    private static String written(Method method) {
        StringBuilder text = new StringBuilder(method.getReturnType().getSimpleName());
        text.append(' ').append(method.getName()).append('(');
        String between = "";
        for (Class<?> type : method.getParameterTypes()) {
            text.append(between).append(type.getSimpleName());
            between = ",";
        }
        text.append(')');
        for (Class<?> type : method.getExceptionTypes()) {
            text.append(' ').append(type.getSimpleName().replace("Exception", ""));
        }
        return text.toString();
    }
}
