import java.lang.management.ManagementFactory;
import java.lang.reflect.Constructor;
import java.lang.reflect.Field;
import java.lang.reflect.Method;
import java.lang.reflect.Modifier;
import java.util.TreeSet;
import java.util.regex.Matcher;
import java.util.regex.Pattern;

/** The public face, and the room: an object is made once, and calls make nothing. */
public final class FaceTest {
    private static final String[] FACE = {
        "int alter(int,int,int) IllegalArgumentException IndexOutOfBoundsException",
        "int copy(int,int) IllegalArgumentException",
        "int digest(int,int) IllegalArgumentException",
        "int dsaKeys(int) IllegalArgumentException IllegalStateException ArithmeticException",
        "int dsaSign(int,int) IllegalArgumentException IllegalStateException UnsupportedOperationException"
                + " ArithmeticException",
        "boolean dsaVerify(int,int) IllegalArgumentException IllegalStateException"
                + " UnsupportedOperationException ArithmeticException",
        "int end(int,int) IllegalArgumentException IndexOutOfBoundsException",
        "int feed(int,int,int,int,int) IndexOutOfBoundsException",
        "int kemKeys(int) IllegalArgumentException IllegalStateException ArithmeticException",
        "int kemOpen(int) IllegalArgumentException UnsupportedOperationException ArithmeticException",
        "int kemWrap(int) IllegalArgumentException IllegalStateException UnsupportedOperationException"
                + " ArithmeticException",
        "int length(int) IllegalArgumentException",
        "int resize(int,int) IllegalArgumentException",
        "boolean same(int,int) IllegalArgumentException",
        "int slhKeys(int) IllegalArgumentException IllegalStateException",
        "int slhNode(int,int,int,int,int) IllegalArgumentException UnsupportedOperationException",
        "int slhSign(int,int) IllegalArgumentException IllegalStateException UnsupportedOperationException",
        "boolean slhVerify(int,int) IllegalArgumentException IllegalStateException"
                + " UnsupportedOperationException",
        "long word(int,int) IllegalArgumentException IndexOutOfBoundsException",
    };

    public static void main(String[] args) {
        members();
        room();
        Check.end("FaceTest");
    }

    private static void members() {
        Class<?> it = LatticeSuite.class;
        Check.holds("public and final", Modifier.isPublic(it.getModifiers()) && Modifier.isFinal(it.getModifiers()));
        TreeSet<String> got = new TreeSet<>();
        TreeSet<String> want = new TreeSet<>();
        for (Method method : it.getDeclaredMethods()) {
            if (!Modifier.isPrivate(method.getModifiers())) {
                Check.due(method.getName(), method.getModifiers(), Modifier.PUBLIC);
                got.add(textOf(method));
            }
        }
        for (String line : FACE) {
            want.add(line);
        }
        Check.due("the methods", got, want);
        if (Check.hasDocument()) {
            Check.due("the methods that the document has", got, inDocument());
        }
        for (Field field : it.getDeclaredFields()) {
            Check.holds(field.getName() + " is private", Modifier.isPrivate(field.getModifiers()));
        }
        Constructor<?>[] constructors = it.getDeclaredConstructors();
        Check.due("constructors", constructors.length, 1);
        Check.holds("public", Modifier.isPublic(constructors[0].getModifiers()));
        Check.due("of no arguments", constructors[0].getParameterCount(), 0);
        for (Class<?> inside : it.getDeclaredClasses()) {
            Check.holds(inside.getName() + " is static", Modifier.isStatic(inside.getModifiers()));
            Check.holds(inside.getName() + " is no part of the face",
                    !Modifier.isPublic(inside.getModifiers()) && !Modifier.isProtected(inside.getModifiers()));
        }
    }

    /** The methods below 'The public face', in the form of textOf. */
    private static TreeSet<String> inDocument() {
        TreeSet<String> answer = new TreeSet<>();
        Matcher line = Pattern.compile("public (\\w+) (\\w+)\\(([^)]*)\\)(?: throws ([^;]*))?;")
                .matcher(Check.section("The public face"));
        while (line.find()) {
            String types = line.group(3).replaceAll("(\\w+) \\w+", "$1").replace(" ", "");
            String thrown = line.group(4) == null ? "" : " " + line.group(4).replace(",", "");
            answer.add(line.group(1) + " " + line.group(2) + "(" + types + ")" + thrown);
        }
        return answer;
    }

    private static String textOf(Method method) {
        StringBuilder text = new StringBuilder();
        text.append(method.getReturnType()).append(' ').append(method.getName()).append('(');
        for (int i = 0; i < method.getParameterCount(); i++) {
            text.append(i == 0 ? "" : ",").append(method.getParameterTypes()[i]);
        }
        text.append(')');
        for (Class<?> thrown : method.getExceptionTypes()) {
            text.append(' ').append(thrown.getSimpleName());
        }
        return text.toString();
    }

    /** 7.3 million elements are the room of a run; a new object takes less than a tenth of them. */
    private static void room() {
        new LatticeSuite();
        long before = allocated();
        LatticeSuite x = new LatticeSuite();
        long made = allocated() - before;
        Check.holds("a new object takes " + made, made < 1_000_000);
        work(x);
        before = allocated();
        work(x);
        long more = allocated() - before;
        Check.holds("calls take " + more, more < 1_000);
    }

    private static void work(LatticeSuite x) {
        x.resize(Check.MESSAGE, 1000);
        x.resize(Check.RANDOM, 64);
        x.kemKeys(2);
        x.resize(Check.RANDOM, 32);
        x.kemWrap(2);
        x.kemOpen(2);
        x.dsaKeys(2);
        x.dsaSign(2, 5);
        x.dsaVerify(2, 5);
        for (int kind = 1; kind <= 16; kind++) {
            x.digest(kind, 65536);
        }
        for (int set : new int[] {1, 11}) {
            x.resize(Check.RANDOM, set == 1 ? 48 : 96);
            x.slhKeys(set);
            x.resize(Check.RANDOM, 0);
            x.slhSign(set, 8);
            x.slhVerify(set, 8);
        }
    }

    private static long allocated() {
        com.sun.management.ThreadMXBean bean =
                (com.sun.management.ThreadMXBean) ManagementFactory.getThreadMXBean();
        return bean.getThreadAllocatedBytes(Thread.currentThread().getId());
    }
}
