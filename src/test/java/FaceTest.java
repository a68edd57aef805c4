import java.lang.reflect.Constructor;
import java.lang.reflect.Field;
import java.lang.reflect.Member;
import java.lang.reflect.Method;
import java.lang.reflect.Modifier;
import java.util.Arrays;
import java.util.TreeSet;

/** The class has the document's face, and nothing more that others can see. */
public final class FaceTest {
    private static final String[] FACE = {
        "public static final int ListingRow.BAD",
        "public static final int ListingRow.NONE",
        "public static final int ListingRow.THERE",
        "public static final int ListingRow.FULL",
        "public ListingRow()",
        "public int ListingRow.feed(long,int)",
        "public int ListingRow.add(int,int,int,int)",
        "public int ListingRow.drop()",
        "public int ListingRow.clear()",
        "public int ListingRow.make(int)",
        "public int ListingRow.size(int)",
        "public long ListingRow.bytes(int)",
        "public int ListingRow.index(int,int)",
        "public int ListingRow.patch(int,int)",
        "public int ListingRow.cut(int)",
        "public int ListingRow.set(int,int,int)",
        "public int ListingRow.check()",
        "public int ListingRow.entry(int,int)",
        "public int ListingRow.find()",
        "public int ListingRow.passed()",
    };

    public static void main(String[] args) {
        Due.due("BAD", ListingRow.BAD, -1);
        Due.due("NONE", ListingRow.NONE, -2);
        Due.due("THERE", ListingRow.THERE, -3);
        Due.due("FULL", ListingRow.FULL, -4);
        Due.due("the class's modifiers", ListingRow.class.getModifiers(), Modifier.PUBLIC | Modifier.FINAL);
        Due.due("the face", visibleMembers().toString(), new TreeSet<>(Arrays.asList(FACE)).toString());
        Due.end();
    }

    private static TreeSet<String> visibleMembers() {
        TreeSet<String> visible = new TreeSet<>();
        for (Constructor<?> c : ListingRow.class.getDeclaredConstructors()) {
            addVisible(visible, c);
        }
        for (Field f : ListingRow.class.getDeclaredFields()) {
            addVisible(visible, f);
        }
        for (Method m : ListingRow.class.getDeclaredMethods()) {
            addVisible(visible, m);
        }
        return visible;
    }

    private static void addVisible(TreeSet<String> visible, Member member) {
        if (!Modifier.isPrivate(member.getModifiers())) {
            visible.add(member.toString());
        }
    }
}
