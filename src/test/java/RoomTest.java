import com.sun.management.ThreadMXBean;
import java.lang.management.ManagementFactory;
import java.lang.reflect.Array;
import java.lang.reflect.Field;
import java.lang.reflect.Modifier;
import java.util.ArrayList;
import java.util.IdentityHashMap;
import java.util.List;
import java.util.Map;

/** How much room an object takes, that no call takes more, and that it lasts for as many calls as it may be used. */
public final class RoomTest {
    private static final int MOST_CALLS = 512;
    private static final int MOST_OBJECTS = 200;
    private static final int MOST_FIELDS = 3000;

    private final Check check = new Check();

    private RoomTest() {
    }

    public static void main(String[] args) throws IllegalAccessException {
        RoomTest test = new RoomTest();
        test.ofAnObject();
        test.ofCalls();
        test.lasting();
        test.check.end();
    }

    /** An object and all that it holds: how many there are, and their fields and elements. */
    private static int[] held(SecondFitting x) throws IllegalAccessException {
        Map<Object, Boolean> seen = new IdentityHashMap<>();
        List<Object> open = new ArrayList<>(List.of(x));
        seen.put(x, true);
        int fields = 0;
        while (!open.isEmpty()) {
            Object one = open.remove(open.size() - 1);
            List<Object> parts = new ArrayList<>();
            if (one.getClass().isArray()) {
                fields += Array.getLength(one);
                for (int i = 0; i < Array.getLength(one); i++) {
                    parts.add(one.getClass().getComponentType().isPrimitive() ? null : Array.get(one, i));
                }
            } else {
                for (Field field : one.getClass().getDeclaredFields()) {
                    if (!Modifier.isStatic(field.getModifiers())) {
                        field.setAccessible(true);
                        fields++;
                        parts.add(field.getType().isPrimitive() ? null : field.get(one));
                    }
                }
            }
            for (Object part : parts) {
                if (part != null && seen.put(part, true) == null) {
                    open.add(part);
                }
            }
        }
        return new int[] {seen.size(), fields};
    }

    private void ofAnObject() throws IllegalAccessException {
        int[] blank = held(new SecondFitting());
        check.due("few objects: " + blank[0], blank[0] <= MOST_OBJECTS, true);
        check.due("few fields: " + blank[1], blank[1] <= MOST_FIELDS, true);
        SecondFitting x = Makers.full();
        Look.at(x, true);
        int[] used = held(x);
        check.due("objects of one that was used: " + used[0], used[0] <= blank[0], true);
        check.due("fields of one that was used: " + used[1], used[1] <= blank[1], true);
    }

    /** Every call but led, whose exception is an object, again and again. */
    private void ofCalls() {
        ThreadMXBean threads = (ThreadMXBean) ManagementFactory.getThreadMXBean();
        if (!threads.isThreadAllocatedMemorySupported()) {
            System.out.println("what calls take can't be seen on this machine");
            return;
        }
        SecondFitting x = Makers.full();
        long least = Long.MAX_VALUE;
        for (int times = 0; times < 5; times++) {
            long begun = threads.getCurrentThreadAllocatedBytes();
            useAll(x);
            least = Math.min(least, threads.getCurrentThreadAllocatedBytes() - begun);
        }
        check.due("bytes that calls take", least, 0);
    }

    private static void useAll(SecondFitting x) {
        for (int i = -1; i <= 6; i++) {
            useNow(x, i);
            useLater(x, i);
            x.pin(i, -1);
            x.wear(1);
            x.days(1);
            x.mark();
            x.back(i);
            x.undo();
            x.feed(i, i, i, i, i);
            x.suit(1);
        }
    }

    private static void useNow(SecondFitting x, int i) {
        x.fault();
        x.where();
        x.size(i);
        x.trouble();
        x.seam(i, 2);
        x.pull(i, 0);
        x.body(i, 99);
        x.measured(i, 99);
        x.taped(i, 99, i);
        x.amiss(i, 99, 2);
        x.together(99, 2);
        x.wrong(99, 2);
        x.fits(99);
        x.until();
        x.worst(99);
        x.worstPose(99);
        x.stripe(i, 3);
        x.tryPin(i, -1);
        x.fewest(99);
        x.pinOf(99, i);
        x.best(99);
        x.bestBy(99);
        x.bestLeaves(99);
        x.bestAll(99);
        x.bestAllBy(99);
        x.bestAllLeaves(99);
        x.reach(i);
    }

    private static void useLater(SecondFitting x, int i) {
        x.settles(99);
        x.orders(99);
        x.orderAt(99, i);
        x.enough(i, 99, true);
        x.need(i, 99);
        x.leave(i, 50);
        x.visits();
        x.visitAt(i);
        x.when();
        x.whenAmiss();
        x.truly(i, true);
        x.widest();
        x.judge();
        x.part(i, 99, true);
        x.meets();
        x.meetBy(i);
        x.tight(i, 0);
        x.month(i);
        x.months(i, 9);
        x.before();
        x.better();
    }

    /** "An object is used for at most 512 calls after it has been made": the last ones are as the first. */
    private void lasting() {
        SecondFitting x = new SecondFitting();
        int calls = 0;
        for (String text : new String[] {Makers.COAT, Makers.BARE + Makers.plain("a", 500, 0)}) {
            calls += (text.length() + 19) / 20 + 1;
            Check.suitOf(x, text);
        }
        int size = 500;
        while (calls < MOST_CALLS - 5) {
            size -= 9;
            check.due("call " + calls, x.pin(0, -9), size);
            calls++;
        }
        check.due("left", x.seam(0, 3), 500 - size);
        check.due("amiss", x.amiss(0, 0, 0), size - 100);
        check.due("before", x.before(), 100 - size - 9);
        check.due("undo", x.undo(), true);
        check.due("the 512th call", x.seam(0, 2), size + 9);
    }
}
