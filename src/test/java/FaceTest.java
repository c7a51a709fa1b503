import java.lang.reflect.Constructor;
import java.lang.reflect.Field;
import java.lang.reflect.Method;
import java.lang.reflect.Modifier;
import java.util.Set;
import java.util.TreeSet;

/** The public face of the document, and the rule that all else is private. */
public final class FaceTest {
    public static void main(String[] args) {
        Set<String> seen = new TreeSet<>();
        for (Method method : CronFinder.class.getDeclaredMethods()) {
            if (!Modifier.isPrivate(method.getModifiers()) && !method.isSynthetic()) {
                seen.add(method.toString().replace("CronFinder.", "").replace("java.lang.", ""));
            }
        }
        Set<String> due = new TreeSet<>(Set.of(
                "public int feed(int,int,int,int,int) throws IndexOutOfBoundsException",
                "public int end(int) throws IllegalArgumentException",
                "public void cron() throws UnsupportedOperationException",
                "public int holiday(int,boolean) throws IllegalArgumentException,IndexOutOfBoundsException",
                "public long next(long) throws IllegalArgumentException",
                "public long last(long) throws IllegalArgumentException",
                "public long later(long,int) throws IllegalArgumentException",
                "public boolean is(long) throws IllegalArgumentException",
                "public int place()"));
        Check.due("methods", due, () -> seen);
        Check.due("class", "public final", () -> Modifier.toString(CronFinder.class.getModifiers()));
        Constructor<?>[] constructors = CronFinder.class.getDeclaredConstructors();
        Check.due("constructors", 1, () -> constructors.length);
        Check.due("constructor", "public CronFinder()", () -> constructors[0].toString());
        for (Field field : CronFinder.class.getDeclaredFields()) {
            Check.due("private " + field.getName(), true, () -> Modifier.isPrivate(field.getModifiers()));
            Check.due("no static state in " + field.getName(), true,
                    () -> !Modifier.isStatic(field.getModifiers()) || Modifier.isFinal(field.getModifiers()));
        }
        Check.finish();
    }
}
