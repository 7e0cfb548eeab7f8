import com.sun.management.ThreadMXBean;
import java.lang.management.ManagementFactory;
import java.lang.reflect.Array;
import java.lang.reflect.Field;
import java.lang.reflect.Modifier;
import java.util.ArrayDeque;
import java.util.IdentityHashMap;
import java.util.Map;

/** Rule 12 of LANGUAGE.md: how much room an object has, and how much its calls make. */
public final class RoomTest {
    private static final String ONE = "fold 2;hurdle swing 0 1 0;beast ewe 1;";
    private static final String STIFF = "fold 2;hurdle stiff 0 1 0;hurdle stiff 0 10 0;hurdle stiff 0 11 0;"
            + "hurdle stiff 0 12 0;hurdle stiff 0 13 0;beast ewe 1;beast ram 1;beast lamb 1;beast blind 1;beast marked 1;";

    /** What is kept by an object: objects with arrays, and all their fields and elements. */
    private record Room(int objects, int elements) { }

    public static void main(String[] args) throws IllegalAccessException {
        aNewObject();
        aSearchOfAFold();
        aSearchOfLargerAndSmallerFolds();
        whatWasFoundFromAnotherStart();
        callsMakeNothing();
        textsMakeLittle();
        Check.end();
    }

    private static void aNewObject() throws IllegalAccessException {
        Check.by("room of a new object");
        Room room = roomOf(new FoldGates());
        atMost("objects", 160, room.objects());
        atMost("fields and elements", 2000, room.elements());
    }

    private static void aSearchOfAFold() throws IllegalAccessException {
        Check.by("room for reached() and comes(), as much as the FOLD needs");
        FoldGates x = Check.told(ONE);
        Room before = roomOf(x);
        Check.due("comes()", 2, x.comes());
        atMost("objects", 10, roomOf(x).objects() - before.objects());
        atMost("fields and elements", 100, roomOf(x).elements() - before.elements());
        FoldGates y = Check.told(STIFF);
        Check.due("comes()", 32, y.comes());
        atMost("fields and elements of the largest", 2 * 7776 + 2100, roomOf(y).elements());
    }

    private static void aSearchOfLargerAndSmallerFolds() throws IllegalAccessException {
        Check.by("room made for reached() and comes() is used again");
        FoldGates x = Check.told(STIFF);
        x.comes();
        Room most = roomOf(x);
        Check.read(x, ONE);
        Check.due("comes() of one", 2, x.comes());
        Check.due("reached(1, -1)", 1, x.reached(1, -1));
        Check.due("reached(1, 0)", 0, x.reached(1, 0));
        Check.read(x, STIFF);
        Check.due("comes() of five", 32, x.comes());
        Check.due("fields and elements", most.elements(), roomOf(x).elements());
        FoldGates y = Check.told(ONE);
        y.comes();
        Check.read(y, STIFF);
        Check.due("comes() of five behind one", 32, y.comes());
        Check.due("reached(31, -1)", x.reached(31, -1), y.reached(31, -1));
    }

    /** From 2 a blind one brings 1 about, which stays; from 0 nothing but 0 comes. */
    private static void whatWasFoundFromAnotherStart() {
        Check.by("room is used again, what was found is not");
        FoldGates x = Check.told("fold 2;hurdle swing 0 1 0;hurdle swing 0 1 1;beast blind 1;");
        x.dawn(2);
        Check.due("comes() from 2", 2, x.comes());
        Check.due("reached(1, -1) from 2", 1, x.reached(1, -1));
        x.dawn(0);
        Check.due("comes() from 0", 1, x.comes());
        Check.due("reached(1, -1) from 0", FoldGates.NONE, x.reached(1, -1));
        Check.due("reached(2, 0) from 0", FoldGates.NONE, x.reached(2, 0));
        Check.due("reached(0, -1) from 0", 0, x.reached(0, -1));
    }

    private static void callsMakeNothing() {
        Check.by("calls other than fold() make nothing, once there was one of each");
        FoldGates x = Check.told(STIFF);
        Check.fill(x, 0, 0, 1, 1, 0, 4, 0, 0, 1);
        all(x);
        long before = made();
        for (int k = 0; k < 10; k++) all(x);
        atMost("bytes", 2000, made() - before);
    }

    private static void textsMakeLittle() {
        Check.by("fold() makes a plan, or what was read of one");
        FoldGates x = new FoldGates();
        x.fold();
        long before = made();
        for (int k = 0; k < 500; k++) x.fold();
        atMost("bytes of one", 600, (made() - before) / 500);
    }

    private static int all(FoldGates x) {
        int sum = x.row(1, 2, 8) + x.set(1, 0, 1) + x.copy(0, 0, 1, 0, 8) + x.drop(1) + x.feed(32, 1);
        sum += x.fault() + x.run(0) + x.runs(0, 0, 4) + x.dawn(5) + x.run(1) + x.undo() + x.hurdle(0, 5) + x.heavy(0);
        sum += x.pen(0, 0) + x.stood(0, 0, 4, 0) + x.ahead(0, 2, 1) + x.reached(7, 0) + x.comes() + x.round(0, 0);
        sum += x.round(1, 1) + x.sticks(0, 0, 4) + x.theft(1, 0, 0, 8) + x.mixed(0, 0, 8) + x.image(0) + x.restore(0);
        return sum + x.kind(0) + x.as(1, 3) + x.ask(1, 0) + x.trace(1) + x.count(0) + x.status();
    }

    private static long made() {
        return ((ThreadMXBean) ManagementFactory.getThreadMXBean()).getCurrentThreadAllocatedBytes();
    }

    private static void atMost(String what, long most, long got) {
        Check.due(what + ", at most " + most + ", here " + got, 1, got <= most ? 1 : 0);
    }

    private static Room roomOf(FoldGates x) throws IllegalAccessException {
        Map<Object, Boolean> seen = new IdentityHashMap<>();
        ArrayDeque<Object> left = new ArrayDeque<>();
        left.add(x);
        seen.put(x, true);
        int elements = 0;
        while (!left.isEmpty()) {
            Object at = left.pop();
            if (at.getClass().isArray()) {
                elements += Array.getLength(at);
                for (int i = 0; at instanceof Object[] of && i < of.length; i++) meet(of[i], seen, left);
                continue;
            }
            for (Field f : at.getClass().getDeclaredFields()) {
                if (Modifier.isStatic(f.getModifiers())) continue;
                elements++;
                f.setAccessible(true);
                if (!f.getType().isPrimitive()) meet(f.get(at), seen, left);
            }
        }
        return new Room(seen.size(), elements);
    }

    private static void meet(Object o, Map<Object, Boolean> seen, ArrayDeque<Object> left) {
        if (o != null && seen.put(o, true) == null) left.add(o);
    }
}
