import java.lang.reflect.Constructor;
import java.lang.reflect.Field;
import java.lang.reflect.Member;
import java.lang.reflect.Method;
import java.lang.reflect.Modifier;
import java.util.ArrayList;
import java.util.Arrays;
import java.util.Collections;
import java.util.List;

/** The public face is the document's, and nothing beside it can be seen from outside. */
public final class FaceTest {
    private static final String[] FACE = {
        "public SnippetShell()",
        "public int SnippetShell.by(int)",
        "public int SnippetShell.count(int)",
        "public int SnippetShell.edition(int)",
        "public int SnippetShell.erase()",
        "public int SnippetShell.kind(int)",
        "public int SnippetShell.letter(int,int)",
        "public int SnippetShell.name(long)",
        "public int SnippetShell.reset()",
        "public int SnippetShell.run()",
        "public int SnippetShell.signs(long)",
        "public int SnippetShell.state(int)",
        "public int SnippetShell.text(int,int) throws java.lang.ArrayIndexOutOfBoundsException",
        "public int SnippetShell.thing(int,int)",
        "public int SnippetShell.thrown(int)",
        "public int SnippetShell.user(int,int)",
        "public int SnippetShell.what(int)",
        "public long SnippetShell.whole(int) throws java.lang.NullPointerException,java.lang.ClassCastException",
        "public static final int SnippetShell.FULL",
        "public static final int SnippetShell.NONE",
        "public static final int SnippetShell.OUTSIDE",
        "public static final int SnippetShell.UNKNOWN",
    };

    public static void main(String[] args) {
        List<String> seen = new ArrayList<>();
        for (Constructor<?> constructor : SnippetShell.class.getDeclaredConstructors()) {
            note(seen, constructor, constructor.toString());
        }
        for (Method method : SnippetShell.class.getDeclaredMethods()) {
            note(seen, method, method.toString());
        }
        for (Field field : SnippetShell.class.getDeclaredFields()) {
            note(seen, field, field.toString());
        }
        Collections.sort(seen);
        List<String> want = Arrays.asList(FACE);
        Check.due("the face " + seen + ": whether it is the document's", seen.equals(want) ? 1 : 0, 1);
        Check.due("the class is final", Modifier.isFinal(SnippetShell.class.getModifiers()) ? 1 : 0, 1);
        Check.due("UNKNOWN", SnippetShell.UNKNOWN, -1);
        Check.due("OUTSIDE", SnippetShell.OUTSIDE, -2);
        Check.due("FULL", SnippetShell.FULL, -4);
        Check.due("NONE", SnippetShell.NONE, -5);
        Check.end();
    }

    private static void note(List<String> seen, Member member, String told) {
        if (!Modifier.isPrivate(member.getModifiers()) && !member.isSynthetic()) {
            seen.add(told);
        }
    }
}
