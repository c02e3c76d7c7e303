import java.lang.reflect.Constructor;
import java.lang.reflect.Field;
import java.lang.reflect.Method;
import java.lang.reflect.Modifier;
import java.util.Set;
import java.util.TreeSet;

/** The class has the document's face, with what each method throws, and shows nothing else. */
public final class FaceTest {
    private static final String FACE = """
        public TwistyBarrels();
        public int turn(int ring, int by) throws IndexOutOfBoundsException, IllegalArgumentException;
        public int shift(int column, int by) throws IndexOutOfBoundsException, IllegalArgumentException;
        public int back() throws UnsupportedOperationException;
        public int scramble(int seed, int many) throws IllegalArgumentException;
        public int logOf(int place, int what) throws IndexOutOfBoundsException, IllegalArgumentException;
        public int at(int slot) throws IndexOutOfBoundsException;
        public int where(int sticker) throws IndexOutOfBoundsException;
        public int paint(int sticker, int colour) throws IndexOutOfBoundsException, IllegalArgumentException, UnsupportedOperationException;
        public int colour(int slot) throws IndexOutOfBoundsException;
        public boolean isDone(int ring) throws IndexOutOfBoundsException;
        public int seams();
        public int fewest(int slot, int other) throws IndexOutOfBoundsException;
        public int learn(int shelf) throws IndexOutOfBoundsException, IllegalArgumentException, UnsupportedOperationException;
        public int use(int shelf, int times) throws IndexOutOfBoundsException, IllegalArgumentException, UnsupportedOperationException;
        public int join(int first, int second, int onto) throws IndexOutOfBoundsException, UnsupportedOperationException;
        public int invert(int shelf, int onto) throws IndexOutOfBoundsException, UnsupportedOperationException;
        public int commute(int first, int second, int onto) throws IndexOutOfBoundsException, UnsupportedOperationException;
        public int forget(int shelf) throws IndexOutOfBoundsException, UnsupportedOperationException;
        public int goesTo(int shelf, int slot) throws IndexOutOfBoundsException, NoSuchElementException;
        public int shelfOf(int shelf, int what) throws IndexOutOfBoundsException, IllegalArgumentException, NoSuchElementException;
        public int orderAgain(int shelf) throws IndexOutOfBoundsException, NoSuchElementException;
        public boolean isEven(int shelf, boolean isAgain) throws IndexOutOfBoundsException, NoSuchElementException;
        public int cycle(int shelf, int slot) throws IndexOutOfBoundsException, NoSuchElementException;
        public boolean commutes(int shelf, int other) throws IndexOutOfBoundsException, NoSuchElementException;
        public int line(int ring) throws IndexOutOfBoundsException;
        public int logLine();
        public int cycleLine(int shelf) throws IndexOutOfBoundsException, NoSuchElementException;
        public char character(int index) throws IndexOutOfBoundsException;
        public int append(char c) throws IllegalStateException;
        public int read() throws IllegalArgumentException, UnsupportedOperationException;
        public int errorPosition() throws NoSuchElementException;
        public int refusal(boolean isDetail) throws NoSuchElementException;
        public int account(int what) throws IllegalArgumentException;
        public boolean isWell();
        public double meanAway();
        public float seamShare();
        public int undo() throws IllegalStateException;
        public int save();
        public int restore() throws IllegalStateException;
        """;

    private static int wrong = 0;

    public static void main(String[] arguments) {
        Set<String> due = new TreeSet<>();
        for (String line : FACE.split("\n")) {
            due.add(line.strip());
        }
        Set<String> got = new TreeSet<>();
        Set<String> publicNames = new TreeSet<>();
        for (Constructor<?> constructor : TwistyBarrels.class.getDeclaredConstructors()) {
            got.add(told(constructor.toGenericString()));
        }
        for (Method method : TwistyBarrels.class.getDeclaredMethods()) {
            if (Modifier.isPublic(method.getModifiers())) {
                got.add(told(method.toGenericString()));
                publicNames.add(method.getName());
            }
        }
        check(strip(due).equals(got), "the face is not the document's: " + difference(strip(due), got));
        check(Modifier.isFinal(TwistyBarrels.class.getModifiers()), "the class is not final");
        checkTheRest(publicNames);
        for (Class<?> inner : TwistyBarrels.class.getDeclaredClasses()) {
            check(Modifier.isStatic(inner.getModifiers()), inner + " is not static");
            check(!Modifier.isPublic(inner.getModifiers()), inner + " is public");
            check(!Modifier.isProtected(inner.getModifiers()), inner + " is protected");
            for (Method method : inner.getDeclaredMethods()) {
                check(!publicNames.contains(method.getName()), method + " bears a public name");
            }
        }
        System.out.println(due.size() + " members of the face, " + wrong + " faults");
        if (wrong > 0) {
            System.exit(1);
        }
    }

    private static void checkTheRest(Set<String> publicNames) {
        for (Method method : TwistyBarrels.class.getDeclaredMethods()) {
            boolean isPublic = Modifier.isPublic(method.getModifiers());
            check(isPublic || Modifier.isPrivate(method.getModifiers()), method + " is neither public nor private");
            check(isPublic || !publicNames.contains(method.getName()), method + " bears a public name");
        }
        for (Field field : TwistyBarrels.class.getDeclaredFields()) {
            check(Modifier.isPrivate(field.getModifiers()), field + " is not private");
            boolean isStatic = Modifier.isStatic(field.getModifiers());
            check(!isStatic || Modifier.isFinal(field.getModifiers()), field + " is not final");
        }
    }

    /** Reflection tells no names of parameters, so that both sides are told without them. */
    private static Set<String> strip(Set<String> lines) {
        Set<String> stripped = new TreeSet<>();
        for (String line : lines) {
            stripped.add(line.replaceAll("(int|boolean|char) \\w+([,)])", "$1$2").replace(", ", ",").replace(";", ""));
        }
        return stripped;
    }

    private static String told(String member) {
        return member.replace("TwistyBarrels.", "").replaceAll("java\\.\\w+\\.", "").replace(", ", ",");
    }

    private static String difference(Set<String> due, Set<String> got) {
        Set<String> missing = new TreeSet<>(due);
        missing.removeAll(got);
        Set<String> more = new TreeSet<>(got);
        more.removeAll(due);
        return "missing " + missing + ", too many " + more;
    }

    private static void check(boolean isSo, String otherwise) {
        if (!isSo) {
            wrong++;
            System.out.println(otherwise);
        }
    }
}
