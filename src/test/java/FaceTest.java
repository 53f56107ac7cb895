import java.lang.reflect.Constructor;
import java.lang.reflect.Field;
import java.lang.reflect.Method;
import java.lang.reflect.Modifier;
import java.util.Arrays;
import java.util.TreeSet;

/** The public face, and promise 1: a new object. */
public final class FaceTest {
    private static final String[] METHODS = {
        "public boolean JetTiming.speed(long,int)",
        "public boolean JetTiming.mark(long,long)",
        "public long JetTiming.at(long)",
        "public boolean JetTiming.distance(int)",
        "public boolean JetTiming.lag(int,int)",
        "public int JetTiming.piece(long,int,int,long,int)",
        "public boolean JetTiming.wanted(int,long)",
        "public int JetTiming.middle(int)",
        "public boolean JetTiming.meet(int,int)",
        "public int JetTiming.run()",
        "public int JetTiming.blown(int)",
        "public long JetTiming.worth()",
        "public int JetTiming.fires(int,int,int)",
        "public boolean JetTiming.strength(int,int,int)",
        "public long JetTiming.air()",
        "public boolean JetTiming.seen(int,boolean)",
        "public int JetTiming.stuck(int)",
    };

    public static void main(String[] args) {
        face();
        nothingFound();
        for (int jets = 1; jets <= 16; jets++) {
            hasJets(jets, jets);
        }
        hasJets(0, 1);
        hasJets(-1, 1);
        hasJets(17, 1);
        hasJets(Integer.MIN_VALUE, 1);
        hasJets(Integer.MAX_VALUE, 1);
        Check.end("FaceTest");
    }

    private static void face() {
        Class<?> type = JetTiming.class;
        Check.due("NONE", JetTiming.NONE, -1);
        Check.due("class is public final", type.getModifiers(), Modifier.PUBLIC | Modifier.FINAL);
        TreeSet<String> found = new TreeSet<>();
        for (Method method : type.getDeclaredMethods()) {
            if (!Modifier.isPrivate(method.getModifiers())) {
                found.add(method.toString());
            }
        }
        Check.due("methods " + found, found.equals(new TreeSet<>(Arrays.asList(METHODS))), true);
        for (Field field : type.getDeclaredFields()) {
            boolean seen = !Modifier.isPrivate(field.getModifiers());
            Check.due("seen: field " + field, seen, field.getName().equals("NONE"));
        }
        Constructor<?>[] constructors = type.getDeclaredConstructors();
        Check.due("constructors", constructors.length, 1);
        Check.due("constructor", constructors[0].toString().equals("public JetTiming(int)"), true);
    }

    private static void nothingFound() {
        JetTiming x = new JetTiming(3);
        x.wanted(0, 5);
        x.speed(0, 1);
        x.piece(0, 0, 3, 0, 0);
        Check.due("blown before run", x.blown(0), -1);
        Check.due("worth before run", x.worth(), 0);
        Check.due("air before run", x.air(), 0);
        Check.due("fires before run", x.fires(0, 0, 0), -1);
        Check.due("seen before run", x.seen(0, false), false);
        Check.due("stuck before run", x.stuck(0), -1);
        JetTiming y = new JetTiming(3);
        Check.due("at of a belt that stands", y.at(20000), 0);
        Check.due("middle without pieces", y.middle(0), -1);
        Check.due("run without pieces", y.run(), 0);
        Check.due("blown without pieces", y.blown(0), -1);
    }

    private static void hasJets(int told, int jets) {
        JetTiming x = new JetTiming(told);
        String of = "JetTiming(" + told + "): ";
        Check.due(of + "all jets wide", x.piece(0, 0, jets, 0, 0), 0);
        Check.due(of + "wider", x.piece(0, 0, jets + 1, 0, 0), -1);
        Check.due(of + "on the last jet", x.piece(0, jets - 1, 1, 0, 0), 1);
        Check.due(of + "behind the last jet", x.piece(0, jets, 1, 0, 0), -1);
        x.wanted(0, 1);
        Check.due(of + "run", x.run(), 2);
        Check.due(of + "last jet fires", x.fires(jets - 1, 0, 0), 0);
        Check.due(of + "jet behind fires", x.fires(jets, 0, 0), -1);
        x.seen(0, false);
        x.seen(1, false);
        Check.due(of + "last stuck jet", x.stuck(jets - 1), jets - 1);
        Check.due(of + "one more stuck jet", x.stuck(jets), -1);
    }
}
