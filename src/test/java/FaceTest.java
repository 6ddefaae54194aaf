import java.lang.reflect.Constructor;
import java.lang.reflect.Executable;
import java.lang.reflect.Field;
import java.lang.reflect.Method;
import java.lang.reflect.Modifier;
import java.util.Arrays;
import java.util.Set;
import java.util.TreeSet;
import java.util.stream.Collectors;

/** "The public face" of the document: the class has each member that stands there, with its exceptions, and no other. */
public final class FaceTest {
    /** Copied from the document as it stands; the names of parameters are left out when it is compared. */
    private static final String FACE = """
        public Signatory();
        public int addPerson() throws IllegalStateException;
        public int leave(int person, int substitute) throws IndexOutOfBoundsException, IllegalArgumentException;
        public int comeBack(int person) throws IndexOutOfBoundsException, IllegalStateException;
        public boolean actsFor(int person, int other) throws IndexOutOfBoundsException;
        public int grant(int holder, int kind, char hand, int limit, int first, int last) throws IndexOutOfBoundsException, IllegalArgumentException, IllegalStateException;
        public int delegate(int power, int holder, int limit, int first, int last) throws IndexOutOfBoundsException, IllegalArgumentException, UnsupportedOperationException, IllegalStateException;
        public int lower(int power, int limit) throws IndexOutOfBoundsException, IllegalArgumentException;
        public int revoke(int power) throws IndexOutOfBoundsException, IllegalStateException;
        public int source(int power) throws IndexOutOfBoundsException;
        public int limit(int power) throws IndexOutOfBoundsException;
        public char fault(int power, int sum) throws IndexOutOfBoundsException, IllegalArgumentException;
        public int faultDepth(int power, int sum) throws IndexOutOfBoundsException, IllegalArgumentException, NoSuchElementException;
        public int reach(int power) throws IndexOutOfBoundsException;
        public boolean canSign(int person, int kind, int sum) throws IndexOutOfBoundsException, IllegalArgumentException;
        public boolean canSignTogether(int person, int other, int kind, int sum) throws IndexOutOfBoundsException, IllegalArgumentException, UnsupportedOperationException;
        public int signers(int kind, int sum) throws IllegalArgumentException;
        public int pairs(int kind, int sum) throws IllegalArgumentException;
        public int pairsByTrying(int kind, int sum) throws IllegalArgumentException;
        public int sign(int person, int kind, int amount, int party) throws IndexOutOfBoundsException, IllegalArgumentException, IllegalStateException;
        public int signTogether(int person, int other, int kind, int amount, int party) throws IndexOutOfBoundsException, IllegalArgumentException, UnsupportedOperationException, IllegalStateException;
        public int ratify(int deed, int person) throws IndexOutOfBoundsException, IllegalStateException, UnsupportedOperationException;
        public int annul(int deed) throws IndexOutOfBoundsException, IllegalStateException;
        public char status(int deed) throws IndexOutOfBoundsException;
        public int sum(int deed) throws IndexOutOfBoundsException;
        public int sumByPapers(int deed) throws IndexOutOfBoundsException;
        public boolean stands(int deed) throws IndexOutOfBoundsException;
        public boolean standsByPapers(int deed) throws IndexOutOfBoundsException;
        public char lack(int deed) throws IndexOutOfBoundsException, NoSuchElementException;
        public int lackPower(int deed) throws IndexOutOfBoundsException, NoSuchElementException;
        public int lackDepth(int deed) throws IndexOutOfBoundsException, NoSuchElementException;
        public int setWindow(int days) throws IllegalArgumentException;
        public int pass(int days) throws IllegalArgumentException;
        public int today();
        public long bound();
        public float standingShare() throws NoSuchElementException;
        """;

    private static final Checks checks = new Checks("FaceTest");

    public static void main(String[] args) {
        checks.sentence("The public face: public final class Signatory");
        checks.due("modifiers", "public final", () -> Modifier.toString(Signatory.class.getModifiers()));
        checks.due("no package", "", Signatory.class::getPackageName);
        Set<String> due = new TreeSet<>(FACE.lines().map(FaceTest::withoutNames).toList());
        Set<String> got = membersOf(Signatory.class);
        for (String line : due) {
            checks.due("there is: " + line, true, () -> got.contains(line));
        }
        for (String line : got) {
            checks.due("the document has: " + line, true, () -> due.contains(line));
        }
        nothingElseIsSeen();
        checks.end();
    }

    private static String withoutNames(String line) {
        return line.replaceAll("(int|char) \\w+([,)])", "$1$2").replace(";", "");
    }

    private static Set<String> membersOf(Class<?> type) {
        Set<String> members = new TreeSet<>();
        for (Constructor<?> each : type.getDeclaredConstructors()) {
            members.add(lineOf(each, type.getSimpleName()));
        }
        for (Method each : type.getDeclaredMethods()) {
            if (!Modifier.isPrivate(each.getModifiers())) {
                members.add(lineOf(each, each.getReturnType().getSimpleName() + " " + each.getName()));
            }
        }
        return members;
    }

    private static String lineOf(Executable member, String name) {
        String thrown = namesOf(member.getExceptionTypes());
        return Modifier.toString(member.getModifiers()) + " " + name + "(" + namesOf(member.getParameterTypes()) + ")"
                + (thrown.isEmpty() ? "" : " throws " + thrown);
    }

    private static String namesOf(Class<?>[] types) {
        return Arrays.stream(types).map(Class::getSimpleName).collect(Collectors.joining(", "));
    }

    /** LANGUAGE.md, rules 1 and 5. */
    private static void nothingElseIsSeen() {
        checks.sentence("no other public, protected or package-visible member, but for the classes inside it");
        for (Field each : Signatory.class.getDeclaredFields()) {
            checks.due("private " + each.getName(), true, () -> Modifier.isPrivate(each.getModifiers()));
            checks.due("static ones are final: " + each.getName(), true,
                    () -> !Modifier.isStatic(each.getModifiers()) || Modifier.isFinal(each.getModifiers()));
        }
        for (Class<?> each : Signatory.class.getDeclaredClasses()) {
            int modifiers = each.getModifiers();
            checks.due("static, and not for others: " + each.getSimpleName(), true, () -> Modifier.isStatic(modifiers)
                    && !Modifier.isPublic(modifiers) && !Modifier.isProtected(modifiers));
        }
        checks.sentence("No private method bears the name of a public one");
        Set<String> names = Arrays.stream(Signatory.class.getMethods())
                .filter(each -> each.getDeclaringClass() == Signatory.class)
                .map(Method::getName).collect(Collectors.toSet());
        for (Method each : Signatory.class.getDeclaredMethods()) {
            checks.due("another name: " + each.getName(), false,
                    () -> Modifier.isPrivate(each.getModifiers()) && names.contains(each.getName()));
        }
    }
}
