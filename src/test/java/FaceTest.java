import java.lang.reflect.Constructor;
import java.lang.reflect.Field;
import java.lang.reflect.Member;
import java.lang.reflect.Method;
import java.lang.reflect.Modifier;
import java.util.Arrays;
import java.util.TreeSet;

/** The public face is the document's, and nothing else of the class can be reached. */
public final class FaceTest {
    private static final String[] DUE = {
        "public SawGrids(int,int)",
        "public boolean SawGrids.apart(int,int) throws java.lang.IllegalStateException,java.lang.IndexOutOfBoundsException",
        "public boolean SawGrids.cell(int,int,int,boolean) throws java.lang.IndexOutOfBoundsException",
        "public boolean SawGrids.knot(int,int,int) throws java.lang.IndexOutOfBoundsException,java.lang.IllegalArgumentException",
        "public boolean SawGrids.may(int,int,int,int) throws java.lang.IndexOutOfBoundsException",
        "public int SawGrids.all(int) throws java.lang.IllegalStateException,java.lang.IndexOutOfBoundsException",
        "public int SawGrids.board(int,int) throws java.lang.IllegalStateException,java.lang.IndexOutOfBoundsException",
        "public int SawGrids.run()",
        "public int SawGrids.size(int,int,int,int) throws java.lang.IllegalArgumentException,java.lang.IllegalStateException",
        "public int SawGrids.wood()",
        "public int SawGrids.worth(int) throws java.lang.IndexOutOfBoundsException",
        "public int SawGrids.yields(int) throws java.lang.IllegalStateException,java.lang.IndexOutOfBoundsException",
        "public static final int SawGrids.NONE",
        "public void SawGrids.span(int,int,int,int) throws java.lang.IndexOutOfBoundsException,java.lang.IllegalArgumentException",
    };

    public static void main(String[] args) {
        Check.sentence("The public face");
        Check.same("the class", SawGrids.class.getModifiers(), Modifier.PUBLIC | Modifier.FINAL);
        TreeSet<String> face = new TreeSet<>();
        TreeSet<String> open = new TreeSet<>();
        TreeSet<String> hidden = new TreeSet<>();
        for (Constructor<?> made : SawGrids.class.getDeclaredConstructors()) {
            sort(made, made.toString(), face);
        }
        for (Field field : SawGrids.class.getDeclaredFields()) {
            sort(field, field.toString(), face);
        }
        for (Method method : SawGrids.class.getDeclaredMethods()) {
            sort(method, method.toString(), face);
            (Modifier.isPublic(method.getModifiers()) ? open : hidden).add(method.getName());
        }
        for (String due : DUE) {
            Check.yes("face has " + due, face.contains(due));
        }
        face.removeAll(Arrays.asList(DUE));
        Check.yes("nothing more than the face: " + face, face.isEmpty());
        hidden.retainAll(open);
        Check.yes("no private method bears a public one's name: " + hidden, hidden.isEmpty());
        Check.end("FaceTest");
    }

    private static void sort(Member member, String text, TreeSet<String> face) {
        if (!Modifier.isPrivate(member.getModifiers())) {
            face.add(text);
        }
    }
}
