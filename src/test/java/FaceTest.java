import java.lang.reflect.Constructor;
import java.lang.reflect.Field;
import java.lang.reflect.Method;
import java.lang.reflect.Modifier;
import java.util.Set;
import java.util.TreeSet;

/** The public face: each member of the document, and no other that others can reach. */
public final class FaceTest {
    private static final String[] METHODS = {
        "public boolean TributeFleet.water(int,int)",
        "public boolean TributeFleet.lock(int,int)",
        "public int TributeFleet.lake(int,int)",
        "public boolean TributeFleet.give(int,int)",
        "public boolean TributeFleet.ice(int,int)",
        "public int TributeFleet.squadron(int,int,int,int)",
        "public int TributeFleet.feed(int,int,int,int,int)",
        "public int TributeFleet.statute(int)",
        "public int TributeFleet.fault()",
        "public int TributeFleet.law(int,int)",
        "public boolean TributeFleet.leave(int,boolean)",
        "public int TributeFleet.lose(int,int)",
        "public int TributeFleet.day()",
        "public int TributeFleet.told(int,int)",
        "public int TributeFleet.judge(int,int)",
        "public int TributeFleet.reach(int,int)",
        "public int TributeFleet.store(int)",
        "public boolean TributeFleet.allot(int,int)",
        "public boolean TributeFleet.rate(int)",
        "public int TributeFleet.commute(int,int)",
        "public int TributeFleet.county(int,int)",
        "public boolean TributeFleet.due(int,int)",
        "public int TributeFleet.least(int,int,int)",
        "public int TributeFleet.count(int)",
    };

    private FaceTest() {
    }

    public static void main(String[] args) {
        Checks c = new Checks();
        c.sentence("The public face: public final class TributeFleet.", FaceTest::finalClass);
        c.sentence("The public face and the constants: NONE = -1.", FaceTest::constants);
        c.sentence("The public face: public TributeFleet(int reaches).", FaceTest::constructors);
        c.sentence("The public face: the methods, and no others.", FaceTest::methods);
        c.end();
    }

    private static void finalClass(Checks c) {
        int modifiers = TributeFleet.class.getModifiers();
        c.due("public", Modifier.isPublic(modifiers), true);
        c.due("final", Modifier.isFinal(modifiers), true);
        c.due("in a package", TributeFleet.class.getPackageName().isEmpty(), true);
        c.due("of no other class", TributeFleet.class.getSuperclass() == Object.class, true);
    }

    private static void constants(Checks c) {
        c.due("NONE", TributeFleet.NONE, -1);
        Set<String> reached = new TreeSet<>();
        for (Field each : TributeFleet.class.getDeclaredFields()) {
            if (!Modifier.isPrivate(each.getModifiers())) {
                reached.add(each.toString());
            }
        }
        same(c, reached, Set.of("public static final int TributeFleet.NONE"));
    }

    private static void constructors(Checks c) {
        Set<String> reached = new TreeSet<>();
        for (Constructor<?> each : TributeFleet.class.getDeclaredConstructors()) {
            if (!Modifier.isPrivate(each.getModifiers())) {
                reached.add(each.toString());
            }
        }
        same(c, reached, Set.of("public TributeFleet(int)"));
    }

    private static void methods(Checks c) {
        Set<String> reached = new TreeSet<>();
        for (Method each : TributeFleet.class.getDeclaredMethods()) {
            if (!Modifier.isPrivate(each.getModifiers()) && !each.isSynthetic()) {
                reached.add(each.toString());
            }
        }
        same(c, reached, Set.of(METHODS));
    }

    private static void same(Checks c, Set<String> reached, Set<String> wanted) {
        for (String each : wanted) {
            c.due("there is " + each, reached.contains(each), true);
        }
        for (String each : reached) {
            c.due("the document has " + each, wanted.contains(each), true);
        }
    }
}
