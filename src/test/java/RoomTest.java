import com.sun.management.ThreadMXBean;
import java.lang.management.ManagementFactory;
import java.lang.reflect.Array;
import java.lang.reflect.Field;
import java.lang.reflect.Modifier;
import java.util.IdentityHashMap;
import java.util.Map;
import java.util.function.ToIntFunction;

/** How much room an object takes, all rows it reaches counted, and that no call but the first of an IMAGE takes more. */
public final class RoomTest {
    private static final int MOST_OBJECTS = 100;
    private static final int MOST_PLACES = 12000;
    private static final int TIMES = 40;
    /** What the asking itself may take, far below one new row each time. */
    private static final long ASIDE = 16L * (TIMES - 1);
    private static final ThreadMXBean MEMORY = (ThreadMXBean) ManagementFactory.getThreadMXBean();

    private final Map<Object, Boolean> met = new IdentityHashMap<>();
    private int places;

    public static void main(String[] args) throws IllegalAccessException {
        LookTimes full = Scene.full();
        for (int k = 0; k < 3; k++) {
            full.image(k);
        }
        full.next(4, 20, LookTimes.NONE);
        full.after(0);
        RoomTest room = new RoomTest();
        room.walk(full);
        Check.yes(room.met.size() + " objects and arrays", room.met.size() <= MOST_OBJECTS);
        Check.yes(room.places + " fields and elements", room.places <= MOST_PLACES);
        questionsTakeNone();
        changesTakeNone();
        Check.close("RoomTest");
    }

    private void walk(Object object) throws IllegalAccessException {
        if (object == null || object instanceof String || met.put(object, true) != null) {
            return;
        }
        if (object.getClass().isArray()) {
            places += Array.getLength(object);
            for (int i = 0; i < Array.getLength(object) && !object.getClass().getComponentType().isPrimitive(); i++) {
                walk(Array.get(object, i));
            }
            return;
        }
        for (Field field : object.getClass().getDeclaredFields()) {
            if (!Modifier.isStatic(field.getModifiers())) {
                places++;
                field.setAccessible(true);
                if (!field.getType().isPrimitive()) {
                    walk(field.get(object));
                }
            }
        }
    }

    private static void takesNone(String call, ToIntFunction<LookTimes> made) {
        LookTimes x = Scene.full();
        x.image(0);
        x.image(2);
        made.applyAsInt(x);
        long ahead = MEMORY.getThreadAllocatedBytes(Thread.currentThread().getId());
        int sum = 0;
        for (int i = 0; i < TIMES; i++) {
            sum += made.applyAsInt(x);
        }
        long taken = MEMORY.getThreadAllocatedBytes(Thread.currentThread().getId()) - ahead;
        Check.yes(call + " takes " + taken + " bytes in " + TIMES + " calls (" + sum + ")", taken <= ASIDE);
    }

    private static void questionsTakeNone() {
        takesNone("fault", LookTimes::fault);
        takesNone("on", x -> x.on(11, 4));
        takesNone("row", x -> x.row(3, 7));
        takesNone("length", x -> x.length(15, 7));
        takesNone("read", x -> x.read(15, 7));
        takesNone("says", x -> x.says(1, 3, 7, 60));
        takesNone("out", x -> x.out(15, 1));
        takesNone("difference", x -> x.difference(15));
        takesNone("odds", x -> x.odds(3));
        takesNone("after", x -> x.after(4));
        takesNone("leaving", x -> x.leaving(1));
        takesNone("house", x -> x.house(3, 1));
        takesNone("joined", x -> x.joined(1));
        takesNone("span", x -> x.span(50, 1));
        takesNone("worlds", x -> x.worlds(0, 5, 10, 50));
        takesNone("parts", x -> x.parts(3, 0, 1, 60));
        takesNone("next", x -> x.next(4, 8, 0) + x.next(3, 60, 0));
        takesNone("fresh", x -> x.fresh(0));
        takesNone("settled", x -> x.settled(15));
        takesNone("apart", x -> x.apart(1, LookTimes.NONE));
        takesNone("nearest", x -> x.nearest(LookTimes.NONE));
        takesNone("kept", LookTimes::kept);
        takesNone("status", x -> x.status(2));
        takesNone("count", x -> x.count(6));
    }

    private static void changesTakeNone() {
        takesNone("feed, end", x -> x.end(480) ? x.feed(0, 0, 0, 0, 0) : 0);
        takesNone("laws of a text of 500 bytes", LookTimes::laws);
        takesNone("laws", x -> x.end(0) ? x.feed(0x6c617720, 0x61206973, 0x20373b20, 0x20202020, 0x20202020) + x.laws() : 0);
        takesNone("liked", x -> x.liked(4, 99) ? 1 : 0);
        takesNone("screen, plan, baby, trial, gaze",
            x -> x.screen(1, 1, 2, 0) + x.plan() + x.baby(0, 0, 20) + x.trial(3, 0) + x.gaze(15, 7, 1));
        takesNone("cried", x -> x.cried(15, 7) ? 1 : 0);
        takesNone("rule, lean, reading", x -> x.rule(5, 10, 1) && x.lean(3) && x.reading(3, 20) ? 1 : 0);
        takesNone("leave", x -> x.leave(0, true) ? 1 : x.leave(0, false) ? 2 : 0);
        takesNone("spread, world", x -> x.spread(9, 5) ? x.world(1, 77) : 0);
        takesNone("book", x -> x.book(16) ? 1 : 0);
        takesNone("image again, restore", x -> x.image(2) && x.restore(0) ? 1 : 0);
        LookTimes grown = new LookTimes();
        long ahead = MEMORY.getThreadAllocatedBytes(Thread.currentThread().getId());
        for (int i = 0; i < 16; i++) {
            grown.screen(1, 1, 2, 0);
            grown.plan();
            grown.trial(i / 4, 0);
            grown.baby(i / 4, 0, 20);
            grown.gaze(i, 0, 9);
        }
        long taken = MEMORY.getThreadAllocatedBytes(Thread.currentThread().getId()) - ahead;
        Check.yes("SCREENS, PLANS, BABIES take " + taken + " bytes", taken <= ASIDE);
    }
}
