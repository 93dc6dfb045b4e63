import java.lang.reflect.Constructor;
import java.lang.reflect.Field;
import java.lang.reflect.Method;
import java.lang.reflect.Modifier;
import java.util.ArrayList;
import java.util.Collections;
import java.util.List;

/** The public face of the document, and what rules 1, 5 and 11 of LANGUAGE.md say of members. */
public final class FaceTest {
    private static final Due DUE = new Due();

    private static final String[] FACE = {
        "all long int", "back int int int", "balance long int int", "batch int", "box int int long int",
        "certificate int int", "claim int int long int", "correct boolean int long", "credit boolean int long int",
        "doubled int int", "haul int long int int", "hold boolean int boolean", "into boolean int int long",
        "layer long int int int", "name boolean int int int", "names int", "paper int int int int",
        "recall int int", "recalled int int int", "share long int int int", "told long int int",
        "unit boolean int", "warm boolean int int", "waste long int long",
    };

    public static void main(String[] args) {
        face();
        members(BatchLinks.class);
        for (Class<?> inside : BatchLinks.class.getDeclaredClasses()) {
            int open = inside.getModifiers() & (Modifier.PUBLIC | Modifier.PROTECTED);
            DUE.is(inside + " is hidden", open, 0);
            members(inside);
        }
        DUE.end();
    }

    private static void face() {
        DUE.is("NONE", BatchLinks.NONE, -1);
        DUE.is("public and final", BatchLinks.class.getModifiers(), Modifier.PUBLIC | Modifier.FINAL);
        Constructor<?>[] constructors = BatchLinks.class.getDeclaredConstructors();
        DUE.is("constructors", constructors.length, 1);
        DUE.is("its parameters", constructors[0].getParameterCount(), 0);
        DUE.is("it is public", Modifier.isPublic(constructors[0].getModifiers()), true);
        List<String> open = new ArrayList<>();
        for (Method method : BatchLinks.class.getDeclaredMethods()) {
            if (!Modifier.isPrivate(method.getModifiers())) {
                open.add(told(method));
            }
        }
        Collections.sort(open);
        DUE.is("methods that are not private", String.join("; ", open), String.join("; ", FACE));
        for (Field field : BatchLinks.class.getDeclaredFields()) {
            boolean none = field.getName().equals("NONE");
            DUE.is(field + " is private", Modifier.isPrivate(field.getModifiers()), !none);
        }
    }

    private static String told(Method method) {
        StringBuilder text = new StringBuilder(method.getName()).append(' ').append(method.getReturnType());
        for (Class<?> parameter : method.getParameterTypes()) {
            text.append(' ').append(parameter);
        }
        return text.toString();
    }

    private static void members(Class<?> type) {
        for (Field field : type.getDeclaredFields()) {
            if (Modifier.isStatic(field.getModifiers())) {
                DUE.is(field + " is final", Modifier.isFinal(field.getModifiers()), true);
            }
        }
        for (Method method : type.getDeclaredMethods()) {
            DUE.is(method + " has few parameters", method.getParameterCount() <= 7, true);
            if (Modifier.isPrivate(method.getModifiers())) {
                DUE.is(method + " bears a public name", isOfFace(method.getName()), false);
            }
        }
    }

    private static boolean isOfFace(String name) {
        for (String line : FACE) {
            if (line.startsWith(name + " ")) {
                return true;
            }
        }
        return false;
    }
}
