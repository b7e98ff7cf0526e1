import java.lang.reflect.Constructor;
import java.lang.reflect.Method;
import java.lang.reflect.Modifier;
import java.util.Arrays;
import java.util.TreeSet;

/** The public face, and promise 1. */
public final class FaceTest {
    private static final String[] FACE = {
        "int block(int,int,int,int,int) IllegalArgumentException IllegalStateException",
        "boolean drill(int) IndexOutOfBoundsException",
        "int blast(int,int) IndexOutOfBoundsException IllegalArgumentException IllegalStateException",
        "int charge(int,int,int,int) IllegalArgumentException IllegalStateException",
        "int flame(int) IllegalArgumentException",
        "int coal(int) IllegalArgumentException",
        "int run(int) IllegalArgumentException",
        "int hammer()",
        "int grind(int,int,int,int) IndexOutOfBoundsException IllegalArgumentException IllegalStateException",
        "int sell(int,int) IndexOutOfBoundsException IllegalArgumentException IllegalStateException",
        "boolean open(int) IndexOutOfBoundsException",
        "int cube(int,int) IndexOutOfBoundsException IllegalArgumentException IllegalStateException",
        "int standard(int) IllegalArgumentException",
        "int ofBlock(int,int) IndexOutOfBoundsException IllegalArgumentException",
        "int ofLayer(int,int) IndexOutOfBoundsException IllegalArgumentException",
        "int ofCell(int,int) IndexOutOfBoundsException IllegalArgumentException",
        "int ofLot(int,int) IndexOutOfBoundsException IllegalArgumentException",
        "int modulus(int,int) IndexOutOfBoundsException IllegalArgumentException",
        "int row(int,int) IndexOutOfBoundsException IllegalArgumentException",
        "int many(int) IllegalArgumentException",
        "double meanFound()",
        "boolean isConform()",
        "int thought(int) IndexOutOfBoundsException IllegalStateException",
        "int bestCharge(int) IllegalArgumentException IllegalStateException",
        "int freeAfter(int,int) IllegalArgumentException",
        "int letFall(int) IllegalArgumentException",
        "long digest()",
    };

    private static final Checks checks = new Checks("FaceTest");

    public static void main(String[] args) {
        theFaceIsThatOfTheDocument();
        aNewObjectIsWithoutBlocks();
        objectsShareNothing();
        checks.finish();
    }

    private static void theFaceIsThatOfTheDocument() {
        TreeSet<String> got = new TreeSet<>();
        for (Method method : ClinkerWorks.class.getDeclaredMethods()) {
            if (Modifier.isPrivate(method.getModifiers()) || method.isSynthetic()) {
                continue;
            }
            checks.yes(method.getName() + " is public", Modifier.isPublic(method.getModifiers()));
            got.add(told(method));
        }
        TreeSet<String> due = new TreeSet<>(Arrays.asList(FACE));
        checks.yes("methods " + got + " are " + due, got.equals(due));
        Constructor<?>[] constructors = ClinkerWorks.class.getDeclaredConstructors();
        checks.same("constructors", constructors.length, 1);
        checks.same("of so many arguments", constructors[0].getParameterCount(), 0);
        checks.yes("a public one", Modifier.isPublic(constructors[0].getModifiers()));
        checks.same("public fields", ClinkerWorks.class.getFields().length, 0);
        checks.yes("a final class", Modifier.isFinal(ClinkerWorks.class.getModifiers()));
    }

    private static String told(Method method) {
        StringBuilder text = new StringBuilder();
        text.append(method.getReturnType().getSimpleName()).append(' ').append(method.getName()).append('(');
        String comma = "";
        for (Class<?> type : method.getParameterTypes()) {
            text.append(comma).append(type.getSimpleName());
            comma = ",";
        }
        text.append(')');
        for (Class<?> type : method.getExceptionTypes()) {
            text.append(' ').append(type.getSimpleName());
        }
        return text.toString();
    }

    private static void aNewObjectIsWithoutBlocks() {
        ClinkerWorks works = new ClinkerWorks();
        for (int what = 0; what < 17; what++) {
            checks.same("new: many(" + what + ")", works.many(what), 0);
        }
        checks.same("new: the STANDARD", works.many(17), 6);
        for (int cell = 0; cell < 5; cell++) {
            for (int what = 0; what < 8; what++) {
                checks.same("new: ofCell(" + cell + ", " + what + ")", works.ofCell(cell, what), 0);
            }
        }
        checks.same("new: row(0, 0)", works.row(0, 0), -1);
        checks.same("new: row(1, 0)", works.row(1, 0), -1);
        checks.same("new: meanFound()", works.meanFound(), 0.0);
        checks.yes("new: isConform()", works.isConform());
        checks.same("new: hammer()", works.hammer(), 0);
        checks.refusesIndex("new: ofBlock(0, 0)", works, () -> works.ofBlock(0, 0));
        checks.refusesIndex("new: ofLayer(0, 0)", works, () -> works.ofLayer(0, 0));
        checks.refusesIndex("new: ofLot(0, 0)", works, () -> works.ofLot(0, 0));
        checks.refusesIndex("new: modulus(0, 0)", works, () -> works.modulus(0, 0));
    }

    private static void objectsShareNothing() {
        ClinkerWorks one = new ClinkerWorks();
        ClinkerWorks other = new ClinkerWorks();
        long before = other.digest();
        one.block(100, 9, 2, 1, 1);
        one.blast(0, 50);
        one.charge(5, 0, 0, 0);
        one.coal(300);
        one.flame(9);
        one.run(9);
        one.standard(50);
        checks.same("the digest of another object", other.digest(), before);
    }
}
