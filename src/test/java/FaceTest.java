import java.io.IOException;
import java.lang.reflect.Constructor;
import java.lang.reflect.Field;
import java.lang.reflect.Method;
import java.lang.reflect.Modifier;
import java.nio.charset.StandardCharsets;
import java.nio.file.Files;
import java.nio.file.Path;
import java.util.ArrayList;
import java.util.List;
import java.util.TreeSet;
import java.util.regex.Matcher;
import java.util.regex.Pattern;

/** The public face of the class, and rules of LANGUAGE.md that can be looked for in its text. */
public final class FaceTest {
    private static final String[] FACE = {
        "int atom(char,boolean) Argument State",
        "int times(int,int) Index Argument State",
        "int par(int,int) Index Argument State",
        "int dual(int) Index State",
        "char kind(int) Index",
        "int part(int,boolean) Index Element",
        "int axiom(int) Index Operation State",
        "int joinPar(int,int,int) Index Argument Element State",
        "int joinTimes(int,int,int,int) Index Argument Element State",
        "int joinCut(int,int,int,int) Index Argument Element Operation State",
        "int conclusions(int) Index",
        "int conclusion(int,int) Index Element",
        "int take(int) Index Operation",
        "int place(int) Index State",
        "int link(int,int) Index Operation",
        "int unlink(int) Index Element",
        "int cut(int,int) Index Operation",
        "int clear()",
        "int roots()",
        "int rootAt(int) Index",
        "int linked(int) Index Element",
        "boolean byChoices() Operation",
        "int badChoice() Operation Element",
        "boolean byContraction()",
        "boolean byTrips() Operation",
        "int splits() Operation",
        "int trees() Operation",
        "int cuts()",
        "char step(int) Index Operation",
        "int normal() Operation",
        "int walk(int) Index Operation",
        "int passes(int) Index Operation",
        "int points(char,int) Argument",
        "boolean near(char,int,int,boolean) Argument",
        "int meaning() Operation",
        "boolean isClique() Operation",
        "int monoid(int,int) Argument",
        "int set(char,int) Argument",
        "int value(int) Index",
        "int counter(int) Index Operation Element",
        "int proofs() Operation",
        "int proof(int) Operation Element",
        "float linkShare() Arithmetic",
        "double meanAtoms() Arithmetic",
        "long checksum()",
        "boolean isTrue()",
    };
    private static final String[] FORBIDDEN = {"->", "::", "\\bfinally\\b", "\\bassert\\b", "\\bsynchronized\\b",
        "\\bstatic\\s*\\{", "\\bSystem\\b(?!\\.arraycopy)", "\\bThread\\b", "\\bRandom\\b", "\\w+Exact\\b",
        "\"\\s*\\+", "\\+\\s*\"", "\\b(ArrayIndexOutOfBounds|NullPointer|ClassCast|NegativeArraySize|ArrayStore)"};
    private static final String LIBRARY = "java\\.util\\.(NoSuchElementException|ArrayList|List|Arrays|Iterator)";

    private final Check check = new Check("FaceTest");

    public static void main(String[] args) throws IOException {
        FaceTest test = new FaceTest();
        test.methods();
        test.document();
        test.others();
        test.text();
        test.check.close();
    }

    private static String shown(Method method) {
        StringBuilder text = new StringBuilder(method.getReturnType().getName());
        text.append(' ').append(method.getName()).append('(');
        for (int index = 0; index < method.getParameterCount(); index++) {
            text.append(index == 0 ? "" : ",").append(method.getParameterTypes()[index].getName());
        }
        text.append(')');
        for (Class<?> thrown : method.getExceptionTypes()) {
            text.append(' ').append(wordOf(thrown.getSimpleName()));
        }
        return text.toString();
    }

    private void methods() {
        TreeSet<String> due = new TreeSet<>(List.of(FACE));
        TreeSet<String> seen = new TreeSet<>();
        TreeSet<String> names = new TreeSet<>();
        TreeSet<String> hidden = new TreeSet<>();
        for (Method method : Sidelessly.class.getDeclaredMethods()) {
            if (Modifier.isPublic(method.getModifiers())) {
                seen.add(shown(method));
                names.add(method.getName());
            } else {
                check.same(method.getName() + " is private", true, Modifier.isPrivate(method.getModifiers()));
                hidden.add(method.getName());
            }
        }
        check.same("the methods of the face", due, seen);
        hidden.retainAll(names);
        check.same("no private method has a name of the face", new TreeSet<String>(), hidden);
    }

    /** The document's face, and the faces that its promises begin with, are the one that is looked for here. */
    private void document() throws IOException {
        Path path = Path.of("../shared/DOC.md");
        if (!Files.isReadable(path)) {
            System.out.println(path + " is not here: whether its face is that of this test is not looked at");
            return;
        }
        Pattern face = Pattern.compile("( +public |`)(\\w+ \\w+)(\\(.*?\\))(?: throws ([\\w, ]+))?[;`].*");
        List<String> seen = new ArrayList<>();
        List<String> promised = new ArrayList<>();
        for (String line : Files.readAllLines(path, StandardCharsets.UTF_8)) {
            Matcher told = face.matcher(line);
            if (told.matches()) {
                StringBuilder text = new StringBuilder(told.group(2));
                text.append(told.group(3).replaceAll(" \\w+(,|\\))", "$1").replace(" ", ""));
                for (String thrown : told.group(4) == null ? new String[0] : told.group(4).split(", ")) {
                    text.append(' ').append(wordOf(thrown));
                }
                (told.group(1).equals("`") ? promised : seen).add(text.toString());
            }
        }
        check.same("the face of the document", List.of(FACE), seen);
        check.same("the faces of the promises", List.of(FACE), promised);
    }

    private static String wordOf(String thrown) {
        Matcher word = Pattern.compile("(Argument|State|Index|Element|Operation|Arithmetic)").matcher(thrown);
        return word.find() ? word.group() : thrown;
    }

    private void others() {
        Constructor<?>[] constructors = Sidelessly.class.getDeclaredConstructors();
        check.same("constructors", 1, constructors.length);
        check.same("it is public", true, Modifier.isPublic(constructors[0].getModifiers()));
        check.same("without parameters", 0, constructors[0].getParameterCount());
        check.same("a final class", true, Modifier.isFinal(Sidelessly.class.getModifiers()));
        for (Field field : Sidelessly.class.getDeclaredFields()) {
            check.same(field.getName() + " is private", true, Modifier.isPrivate(field.getModifiers()));
            boolean isFixed = !Modifier.isStatic(field.getModifiers()) || Modifier.isFinal(field.getModifiers());
            check.same(field.getName() + " is final, if static", true, isFixed);
        }
        Class<?>[] inner = Sidelessly.class.getDeclaredClasses();
        check.same("some twelve classes", true, inner.length <= 13);
        for (Class<?> one : inner) {
            boolean isHidden = !Modifier.isPublic(one.getModifiers()) && !Modifier.isProtected(one.getModifiers());
            check.same(one.getSimpleName() + " is hidden", true, isHidden);
            int fields = 0;
            for (Field field : one.getDeclaredFields()) {
                fields += Modifier.isStatic(field.getModifiers()) ? 0 : 1;
            }
            check.same(one.getSimpleName() + " has some twenty fields at most", true, fields <= 22);
        }
    }

    private void text() throws IOException {
        String source = Files.readString(Path.of("src/main/java/Sidelessly.java"), StandardCharsets.ISO_8859_1);
        Matcher found = Pattern.compile("(?m)^import (.*);$").matcher(source);
        while (found.find()) {
            check.same("the library has " + found.group(1), true, found.group(1).matches(LIBRARY));
        }
        String bare = source.replaceAll("(?s)/\\*.*?\\*/", " ").replaceAll("//[^\\n]*", " ");
        boolean isPlain = bare.chars().allMatch(sign -> sign == '\n' || sign == '\t' || sign >= 32 && sign < 127);
        check.same("plain signs alone", true, isPlain);
        String withoutCases = bare.replaceAll("\\b(case\\b[^;:{}]*|default\\s*)->", " ");
        for (String forbidden : FORBIDDEN) {
            check.same("no " + forbidden, false, Pattern.compile(forbidden).matcher(withoutCases).find());
        }
    }
}
