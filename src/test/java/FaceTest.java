import java.lang.reflect.Constructor;
import java.lang.reflect.Field;
import java.lang.reflect.Method;
import java.lang.reflect.Modifier;
import java.util.ArrayList;
import java.util.Collections;
import java.util.List;

/** The public face, word by word. */
public final class FaceTest {
    private static final String I = "IndexOutOfBoundsException";
    private static final String A = "IllegalArgumentException";
    private static final String S = "IllegalStateException";

    public static void main(String[] args) {
        constants();
        methods();
        nothingElse();
        Check.end("FaceTest");
    }

    private static void constants() {
        Check.same("NONE", -1, RankStock.NONE);
        Check.same("BULL", 0, RankStock.BULL);
        Check.same("HORSE", 1, RankStock.HORSE);
        Check.same("OPEN", 0, RankStock.OPEN);
        Check.same("CLOSED", 1, RankStock.CLOSED);
        Check.same("DRAWN", 2, RankStock.DRAWN);
        Check.same("PAID", 3, RankStock.PAID);
    }

    private static void methods() {
        List<String> due = new ArrayList<>(List.of(
            "int beast(int)" + A + S,
            "int rider()" + S,
            "int rodeo(int,int,int,int,int,int,int)" + A + S,
            "int rodeoIs(int,int)" + I + A,
            "int enter(int,int,int,int)" + I + A + S,
            "int close(int)" + I + S,
            "int placed(int,int)" + I,
            "int most(int)" + I,
            "void hide(int)" + A,
            "int draw(int)" + I + S,
            "int drawn(int,int)" + I,
            "int ride(int,int,int,int,boolean)" + I + A + S,
            "boolean isOffered(int,int)" + I,
            "int answer(int,int,boolean)" + I + S,
            "int score(int,int)" + I,
            "int beastIs(int,int)" + I + A,
            "int pay(int)" + I + S,
            "int got(int,int)" + I,
            "int counts(int)" + I,
            "int ranked(int)" + A,
            "boolean balances()"));
        List<String> got = new ArrayList<>();
        List<String> publicNames = new ArrayList<>();
        for (Method method : RankStock.class.getDeclaredMethods()) {
            if (Modifier.isPublic(method.getModifiers())) {
                got.add(textOf(method));
                publicNames.add(method.getName());
                Check.same(method.getName() + " is static", false, Modifier.isStatic(method.getModifiers()));
            }
        }
        Collections.sort(due);
        Collections.sort(got);
        Check.same("the public methods", due, got);
        for (Method method : RankStock.class.getDeclaredMethods()) {
            if (!Modifier.isPublic(method.getModifiers()) && !method.isSynthetic()) {
                Check.same(method.getName() + " is private", true, Modifier.isPrivate(method.getModifiers()));
                Check.same(method.getName() + " is named as a public one", false,
                    publicNames.contains(method.getName()));
            }
        }
    }

    private static String textOf(Method method) {
        StringBuilder text = new StringBuilder(method.getReturnType().getSimpleName());
        text.append(' ').append(method.getName()).append('(');
        for (Class<?> parameter : method.getParameterTypes()) {
            text.append(text.charAt(text.length() - 1) == '(' ? "" : ",").append(parameter.getSimpleName());
        }
        text.append(')');
        for (Class<?> thrown : method.getExceptionTypes()) {
            text.append(thrown.getSimpleName());
        }
        return text.toString();
    }

    private static void nothingElse() {
        Check.same("the class is public and final", Modifier.PUBLIC | Modifier.FINAL,
            RankStock.class.getModifiers());
        for (Constructor<?> made : RankStock.class.getDeclaredConstructors()) {
            boolean isFace = made.getParameterCount() == 0;
            Check.same("just the constructor of the face is public", isFace, Modifier.isPublic(made.getModifiers()));
            Check.same("the others are private", !isFace, Modifier.isPrivate(made.getModifiers()));
        }
        List<String> constants = List.of("NONE", "BULL", "HORSE", "OPEN", "CLOSED", "DRAWN", "PAID");
        for (Field field : RankStock.class.getDeclaredFields()) {
            int modifiers = field.getModifiers();
            if (constants.contains(field.getName())) {
                int due = Modifier.PUBLIC | Modifier.STATIC | Modifier.FINAL;
                Check.same(field.getName() + " is a public constant", due, modifiers);
            } else if (!field.isSynthetic()) {
                Check.same(field.getName() + " is private", true, Modifier.isPrivate(modifiers));
            }
            if (Modifier.isStatic(modifiers) && !field.isSynthetic()) {
                Check.same(field.getName() + " is final", true, Modifier.isFinal(modifiers));
            }
        }
    }
}
