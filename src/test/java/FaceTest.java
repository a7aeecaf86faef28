import java.lang.reflect.Constructor;
import java.lang.reflect.Field;
import java.lang.reflect.Member;
import java.lang.reflect.Method;
import java.lang.reflect.Modifier;
import java.util.Arrays;
import java.util.Set;
import java.util.TreeSet;

/** The public face is the document's, with nothing beside it that others can see. */
public final class FaceTest {
    private static final String[] FACE = {
        "public static final int KilogramRows.NONE",
        "public KilogramRows(int)",
        "public int KilogramRows.value(long,long) throws java.lang.ArithmeticException",
        "public int KilogramRows.part(int,int) throws java.lang.IndexOutOfBoundsException",
        "public int KilogramRows.add(int,int)",
        "public int KilogramRows.less(int,int)",
        "public int KilogramRows.times(int,int)",
        "public int KilogramRows.over(int,int) throws java.lang.ArithmeticException",
        "public int KilogramRows.order(int,int)",
        "public long KilogramRows.round(int,int,long)",
        "public int KilogramRows.digit(int,int,int)",
        "public int KilogramRows.row()",
        "public boolean KilogramRows.put(int,int,int) throws java.lang.IndexOutOfBoundsException",
        "public int KilogramRows.at(int,int) throws java.lang.IndexOutOfBoundsException",
        "public int KilogramRows.sum(int)",
        "public boolean KilogramRows.entry(int,int,int)",
        "public int KilogramRows.solve(int)",
        "public long KilogramRows.answer(int,int)",
        "public int KilogramRows.weight(int)",
        "public long KilogramRows.share(long,int)"};

    public static void main(String[] args) {
        Due due = new Due();
        Class<KilogramRows> face = KilogramRows.class;
        due.yes("the class is public", Modifier.isPublic(face.getModifiers()));
        due.yes("the class is final", Modifier.isFinal(face.getModifiers()));
        Set<String> seen = new TreeSet<>();
        for (Field f : face.getDeclaredFields()) {
            addIfSeen(seen, f, f.toGenericString());
        }
        for (Constructor<?> c : face.getDeclaredConstructors()) {
            addIfSeen(seen, c, c.toGenericString());
        }
        for (Method m : face.getDeclaredMethods()) {
            addIfSeen(seen, m, m.toGenericString());
        }
        Set<String> want = new TreeSet<>(Arrays.asList(FACE));
        for (String member : want) {
            due.yes(member + " is there", seen.contains(member));
        }
        for (String member : seen) {
            due.yes(member + " is in the document", want.contains(member));
        }
        privateNamesAreTheirOwn(due, face);
        due.end();
    }

    private static void addIfSeen(Set<String> seen, Member member, String text) {
        if (!Modifier.isPrivate(member.getModifiers())) {
            seen.add(text);
        }
    }

    private static void privateNamesAreTheirOwn(Due due, Class<?> face) {
        for (Method hidden : face.getDeclaredMethods()) {
            for (Method shown : face.getDeclaredMethods()) {
                if (Modifier.isPrivate(hidden.getModifiers()) && Modifier.isPublic(shown.getModifiers())) {
                    due.no(hidden + " bears a public name", hidden.getName().equals(shown.getName()));
                }
            }
        }
    }
}
