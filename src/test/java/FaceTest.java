import java.io.IOException;
import java.lang.reflect.Constructor;
import java.lang.reflect.Field;
import java.lang.reflect.Method;
import java.lang.reflect.Modifier;
import java.nio.file.Files;
import java.nio.file.Path;
import java.util.Set;
import java.util.TreeSet;

/** The public face, and those rules of LANGUAGE.md that can be seen in the source without a parser. */
public final class FaceTest {
    private static final String FACE = "feed:int,int,int,int,int:int end:int:int names::int holidays::int enact:int:int"
            + " ask:int,int,int,int:int facts::int fault:int:int name:int,int:int pass:int:int due:int,int,int:int"
            + " person::int weight:int,int:int fact:int,int,long,long,int,int:int withdraw:int,int,int,int:int"
            + " suppose:int,int,long,long:int forget::int reckon:int,int,int,int,int:int value:int:long failed:int:int"
            + " why:int,int:long tell::int changes:int,int,int,int,int,int:int changed:int,int:long"
            + " solve:int,int,int,int,int,long,long:int solved::long terms:int,int,int:int decide:int,int,int,int:int"
            + " object:int:int answer:int,boolean:int revise:int:int decision:int,int:int amount:int,int:long"
            + " dues:int,int:int pay:int,long:long remind:int:int credit:int:long booking:int,int:long"
            + " account:int,int:long fork:int:int adopt:int:int measure:int,int,int,int:int measured:int:long"
            + " forecast:int,int,int,int:int forecasted:int,int:long annul:int,int,int:int gaps:int,int,int:int"
            + " gap:int:int ring:int,int:int write:int,int,int:int out:int:int differ:int,int,int,int,int,int:int"
            + " differs:int:int count:int:int";

    public static void main(String[] args) throws IOException {
        Check check = new Check();
        face(check);
        constants(check);
        nestedNames(check);
        source(check);
        check.end("FaceTest");
    }

    private static void face(Check check) {
        Set<String> want = new TreeSet<>(Set.of(FACE.split(" ")));
        Set<String> got = new TreeSet<>();
        for (Method method : StatuteHouse.class.getDeclaredMethods()) {
            if (!Modifier.isPrivate(method.getModifiers())) {
                StringBuilder types = new StringBuilder();
                for (Class<?> type : method.getParameterTypes()) {
                    types.append(types.length() == 0 ? "" : ",").append(type.getName());
                }
                got.add(method.getName() + ":" + types + ":" + method.getReturnType().getName());
            }
        }
        check.text("face", got.toString(), want.toString());
        check.due("methods", got.size(), 54);
        Constructor<?>[] made = StatuteHouse.class.getDeclaredConstructors();
        check.due("constructors", made.length, 1);
        check.due("public constructor", Modifier.isPublic(made[0].getModifiers()) ? 1 : 0, 1);
        check.due("final class", Modifier.isFinal(StatuteHouse.class.getModifiers()) ? 1 : 0, 1);
    }

    private static void constants(Check check) {
        check.due("NONE", StatuteHouse.NONE, -1);
        check.due("RANGE", StatuteHouse.RANGE, -2);
        check.due("STATE", StatuteHouse.STATE, -3);
        check.due("FULL", StatuteHouse.FULL, -4);
        int open = 0;
        for (Field field : StatuteHouse.class.getDeclaredFields()) {
            open += Modifier.isPrivate(field.getModifiers()) ? 0 : 1;
        }
        check.due("fields that are not private", open, 4);
    }

    /** No other method bears the name of a public one, and the classes inside are static. */
    private static void nestedNames(Check check) {
        for (Class<?> inside : StatuteHouse.class.getDeclaredClasses()) {
            check.due(inside + " is static", Modifier.isStatic(inside.getModifiers()) ? 1 : 0, 1);
            for (Method method : inside.getDeclaredMethods()) {
                check.due(inside + "." + method.getName(), (" " + FACE).contains(" " + method.getName() + ":") ? 1 : 0, 0);
                check.due(inside + "." + method.getName() + " parameters", Math.max(7, method.getParameterCount()), 7);
            }
        }
        check.due("classes inside", Math.max(13, StatuteHouse.class.getDeclaredClasses().length), 13);
    }

    private static void source(Check check) throws IOException {
        String source = Files.readString(Path.of("src/main/java/StatuteHouse.java"));
        String code = source.replaceAll("(?s)/\\*.*?\\*/", "").replaceAll("//[^\n]*", "")
                .replaceAll("\"[^\"\n]*\"", "TEXT");
        for (String word : new String[] {"throw", "try", "catch", "synchronized", "assert", "package", "\\w+Exact",
            "Random", "currentTimeMillis", "nanoTime", "Thread", "Object", "toString", "hashCode", "System.(?!arraycopy)\\w+"}) {
            boolean found = java.util.regex.Pattern.compile("\\b" + word + "\\b").matcher(code).find();
            check.due("source has " + word, found ? 1 : 0, 0);
        }
        check.due("lambdas and references", code.contains("->") || code.contains("::") ? 1 : 0, 0);
        int imports = code.split("\nimport ", -1).length + (code.startsWith("import ") ? 1 : 0) - 1;
        check.due("imports", imports, 1);
        check.due("import of Arrays", code.startsWith("import java.util.Arrays;") ? 1 : 0, 1);
        check.due("other packages", code.replace("import java.util.Arrays;", "").contains("java.") ? 1 : 0, 0);
    }
}
