import java.lang.reflect.Constructor;
import java.lang.reflect.Field;
import java.lang.reflect.Method;
import java.lang.reflect.Modifier;
import java.util.Set;
import java.util.TreeSet;

/** The public face of the document, and promise 1: a new object. */
public final class FaceTest {
    private static final Check check = new Check();
    private static final String[] FACE = {
        "int row(int int int int int) ISE IAE",
        "void undo() ISE",
        "int witness()",
        "void quota(int) ISE IAE",
        "void terms(int int int) ISE IAE",
        "void layer(int int int int) ISE IAE",
        "int bind(int int int int int) ISE IAE UOE",
        "int change(int int int int) NSE IAE ISE UOE",
        "int cancel(int int boolean) NSE IAE ISE UOE",
        "int reinstate(int int) NSE IAE ISE UOE",
        "int claim(int int int) NSE IAE ISE UOE",
        "int count(int)",
        "int fact(int int int int) NSE",
        "int written(int int) NSE",
        "int earned(int int int) NSE",
        "int settled(int int) NSE",
        "int posting(int int) NSE",
        "int balance(int) NSE",
    };

    public static void main(String[] args) {
        methods();
        otherMembers();
        newObject();
        firstTerms();
        objectsAreApart();
        check.end();
    }

    private static void methods() {
        Set<String> due = new TreeSet<>(Set.of(FACE));
        Set<String> got = new TreeSet<>();
        for (Method m : CarrierBooks.class.getDeclaredMethods()) {
            if (Modifier.isPrivate(m.getModifiers())) {
                continue;
            }
            check.same(m.getName() + " is public, of the object", "true",
                    String.valueOf(Modifier.isPublic(m.getModifiers()) && !Modifier.isStatic(m.getModifiers())));
            got.add(signature(m));
        }
        check.same("methods of the face", due.toString(), got.toString());
    }

    private static String signature(Method m) {
        StringBuilder text = new StringBuilder(m.getReturnType().getName());
        text.append(' ').append(m.getName()).append('(');
        for (Class<?> type : m.getParameterTypes()) {
            text.append(text.charAt(text.length() - 1) == '(' ? "" : " ").append(type.getName());
        }
        text.append(')');
        for (Class<?> kind : m.getExceptionTypes()) {
            text.append(' ').append(Call.shortName(kind));
        }
        return text.toString();
    }

    private static void otherMembers() {
        int modifiers = CarrierBooks.class.getModifiers();
        check.same("class is public and final", "true",
                String.valueOf(Modifier.isPublic(modifiers) && Modifier.isFinal(modifiers)));
        Constructor<?>[] made = CarrierBooks.class.getDeclaredConstructors();
        check.same("constructors", "1", String.valueOf(made.length));
        check.same("constructor is public", "true", String.valueOf(Modifier.isPublic(made[0].getModifiers())));
        check.same("constructor's parameters", "0", String.valueOf(made[0].getParameterCount()));
        for (Field f : CarrierBooks.class.getDeclaredFields()) {
            check.same(f.getName() + " is private", "true", String.valueOf(Modifier.isPrivate(f.getModifiers())));
            check.same(f.getName() + " is final if it is static", "true", String.valueOf(
                    !Modifier.isStatic(f.getModifiers()) || Modifier.isFinal(f.getModifiers())));
        }
        for (Class<?> inner : CarrierBooks.class.getDeclaredClasses()) {
            check.same(inner.getName() + " is static", "true", String.valueOf(Modifier.isStatic(inner.getModifiers())));
        }
    }

    private static void newObject() {
        CarrierBooks x = new CarrierBooks();
        for (int what = 0; what <= 4; what++) {
            int w = what;
            check.answers("new: count " + w, 0, () -> x.count(w));
        }
        check.answers("new: witness", 0, x::witness);
        check.balances("new", x, 0, 0, 0, 0, 0, 0, 0);
        check.refuses("new: undo", Check.STATE, x::undo);
        check.refuses("new: written", Check.NONE, () -> x.written(0, 0));
        check.refuses("new: posting", Check.NONE, () -> x.posting(0, 0));
        check.refuses("new: settled", Check.NONE, () -> x.settled(0, 0));
    }

    /** At first: quota 0, deductible 0, limit and aggregate 9999, retention 9999, no layer, no price. */
    private static void firstTerms() {
        CarrierBooks x = new CarrierBooks();
        x.row(0, 49, 0, 9, 10);
        x.bind(0, 10, 0, 0, 100);
        check.answers("first terms: no quota is posted", 1, () -> x.count(3));
        check.answers("first terms: a loss of 1 is paid", 1, () -> x.claim(0, 0, 1));
        check.answers("first terms: the aggregate's rest", 9998, () -> x.claim(0, 0, 9999));
        check.answers("first terms: nothing is left", 0, () -> x.claim(0, 0, 9999));
        check.answers("first terms: no quota part", 0, () -> x.settled(1, 3));
        check.answers("first terms: no layer part", 0, () -> x.settled(1, 4));
        check.answers("first terms: nothing renewed", 0, () -> x.settled(1, 5));
        check.balances("first terms", x, -10, 10 - 9999, 0, 0, 9999, 0, 0);

        CarrierBooks y = new CarrierBooks();
        y.row(0, 49, 0, 9, 10);
        y.bind(0, 10, 0, 0, 100);
        check.answers("first terms: a loss of 9999 is paid", 9999, () -> y.claim(0, 0, 9999));
    }

    private static void objectsAreApart() {
        CarrierBooks x = new CarrierBooks();
        CarrierBooks y = new CarrierBooks();
        x.row(0, 49, 0, 9, 10);
        x.quota(50);
        x.bind(0, 10, 0, 0, 100);
        x.claim(0, 0, 7);
        for (int what = 0; what <= 4; what++) {
            int w = what;
            check.answers("another object: count " + w, 0, () -> y.count(w));
        }
        check.balances("another object", y, 0, 0, 0, 0, 0, 0, 0);
        y.row(0, 49, 0, 9, 20);
        y.bind(0, 10, 0, 0, 100);
        check.answers("another object: its own rate", 20, () -> y.written(0, 0));
        check.answers("another object: its own quota", 1, () -> y.count(3));
        check.answers("another object: charges of the first", 1000, () -> x.fact(0, 4, 0, 0));
    }
}
