import java.lang.reflect.Constructor;
import java.lang.reflect.Field;
import java.lang.reflect.Method;
import java.lang.reflect.Modifier;
import java.util.ArrayList;
import java.util.List;
import java.util.Set;
import java.util.TreeSet;

/** "The public face": the class has the document's members and no others that are public. */
public final class SymbolLinkerFace {
    private static final String[] FACE = {
        "public static final int SymbolLinker.NONE",
        "public SymbolLinker()",
        "public void SymbolLinker.clear()",
        "public int SymbolLinker.unit(boolean,int,int,int,int)",
        "public boolean SymbolLinker.put(int,int,long,int)",
        "public boolean SymbolLinker.keep(int)",
        "public int SymbolLinker.symbol(long,int,int,int,int,int)",
        "public boolean SymbolLinker.await(int,int,int,int,int,long,int)",
        "public boolean SymbolLinker.start(int,int)",
        "public int SymbolLinker.link() throws java.lang.IllegalStateException",
        "public int SymbolLinker.fault(int)",
        "public int SymbolLinker.needed(int,int)",
        "public int SymbolLinker.octet(int)",
        "public int SymbolLinker.address(long,int) throws java.util.NoSuchElementException",
        "public int SymbolLinker.line(int)",
        "public int SymbolLinker.part(int)",
    };

    private static int wrong = 0;

    private static void due(String what, Object given, Object wanted) {
        if (!wanted.equals(given)) {
            wrong++;
            System.out.println(what + ": is " + given + ", due is " + wanted);
        }
    }

    private static void membersAreTheDocuments(Class<?> face) {
        Set<String> given = new TreeSet<>();
        for (Field field : face.getDeclaredFields()) {
            if (!Modifier.isPrivate(field.getModifiers())) {
                given.add(field.toString());
            }
        }
        for (Constructor<?> constructor : face.getDeclaredConstructors()) {
            if (!Modifier.isPrivate(constructor.getModifiers())) {
                given.add(constructor.toString());
            }
        }
        for (Method method : face.getDeclaredMethods()) {
            if (!Modifier.isPrivate(method.getModifiers())) {
                given.add(method.toString());
            }
        }
        Set<String> more = new TreeSet<>(given);
        more.removeAll(List.of(FACE));
        due("members that are not private, beyond the document's", more, Set.of());
        Set<String> fewer = new TreeSet<>(List.of(FACE));
        fewer.removeAll(given);
        due("members of the document that the class has not", fewer, Set.of());
    }

    private static void classIsTheDocuments(Class<?> face) {
        due("the class's marks", Modifier.toString(face.getModifiers()), "public final");
        due("the class's package", face.getPackageName(), "");
        due("the class above it", face.getSuperclass(), Object.class);
        due("its interfaces", face.getInterfaces().length, 0);
        due("NONE", SymbolLinker.NONE, -1);
    }

    private static void classesInsideAreHidden(Class<?> face) {
        for (Class<?> inside : face.getDeclaredClasses()) {
            int marks = inside.getModifiers();
            due(inside.getName() + " is static", Modifier.isStatic(marks), true);
            due(inside.getName() + " is seen from outside", Modifier.isPublic(marks) || Modifier.isProtected(marks), false);
        }
    }

    private static void publicNamesArePublicAlone(Class<?> face) {
        Set<String> open = new TreeSet<>();
        List<String> hidden = new ArrayList<>();
        for (Method method : face.getDeclaredMethods()) {
            if (Modifier.isPublic(method.getModifiers())) {
                due("methods named " + method.getName() + " are one", open.add(method.getName()), true);
            } else {
                hidden.add(method.getName());
            }
        }
        hidden.retainAll(open);
        due("private methods with the names of public ones", hidden, new ArrayList<String>());
    }

    public static void main(String[] args) {
        Class<?> face = SymbolLinker.class;
        membersAreTheDocuments(face);
        classIsTheDocuments(face);
        classesInsideAreHidden(face);
        publicNamesArePublicAlone(face);
        System.out.println(wrong == 0 ? "the face is the document's" : wrong + " answers are not as due");
        if (wrong != 0) {
            System.exit(1);
        }
    }
}
