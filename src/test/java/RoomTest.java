import java.lang.reflect.Array;
import java.lang.reflect.Field;
import java.lang.reflect.Modifier;
import java.util.ArrayDeque;
import java.util.IdentityHashMap;
import java.util.Map;

/** An object at its fullest: all that may come came, in 512 calls, and the objects and arrays that it is made of. */
final class RoomTest {
    public static void main(String[] args) throws Exception {
        Check c = new Check();
        OilPress x = new OilPress();
        c.part("the most that may come, by 512 calls");
        int calls = fill(c, x);
        calls = work(c, x, calls);
        for (; calls < 511; calls++) {
            c.due("plan(0)", x.plan(0), 8);
        }
        c.due("the 512th call", x.planned(7), 199);
        c.part("room");
        count(c, x);
        c.end();
    }

    private static int fill(Check c, OilPress x) {
        for (int grove = 0; grove < 60; grove++) {
            c.due("grove", x.grove(grove % 40, grove % 10), grove);
        }
        for (int vat = 0; vat < 12; vat++) {
            c.due("vat", x.vat(vat % 3, false, 50000), vat);
        }
        for (int lot = 0; lot < 200; lot++) {
            c.due("lot", x.lot(lot < 192 ? Village.SMALL : Village.CLEAN, lot % 60), lot);
        }
        return 60 + 12 + 200;
    }

    /** Twelve lots of the most weight in each bin, and pressing; and eight clean ones of eight likes in state 2. */
    private static int work(Check c, OilPress x, int before) {
        int calls = before;
        int[] lots = new int[44];
        for (int i = 0; i < 44; i++) {
            lots[i] = i < 36 ? i : 156 + i;
        }
        for (int i = 0; i < 44; i++) {
            if (i % 30 == 0) {
                c.due("scale", x.scale(30), true);
                calls++;
            }
            c.due("weigh", x.weigh(lots[i], 80000), 100000);
            c.due("sample", x.sample(lots[i], 400, 80), true);
            calls += 2;
        }
        for (int i = 0; i < 36; i++) {
            c.due("put", x.put(i, i / 12), i % 12 + 1);
            calls++;
        }
        for (int mill = 0; mill < 3; mill++) {
            c.due("press", x.press(mill), 2400);
            c.due("busy", x.gave(mill, 1), false);
            calls += 2;
        }
        return calls;
    }

    /** Counts as ../shared/LANGUAGE.md does: objects and arrays, and the fields and elements of them all. */
    private static void count(Check c, Object from) throws IllegalAccessException {
        Map<Object, Boolean> seen = new IdentityHashMap<>();
        ArrayDeque<Object> open = new ArrayDeque<>();
        open.add(from);
        seen.put(from, true);
        int parts = 0;
        while (!open.isEmpty()) {
            Object one = open.remove();
            if (one.getClass().isArray()) {
                parts += Array.getLength(one);
                for (int i = 0; !one.getClass().getComponentType().isPrimitive() && i < Array.getLength(one); i++) {
                    reach(Array.get(one, i), seen, open);
                }
                continue;
            }
            for (Field field : one.getClass().getDeclaredFields()) {
                if (!Modifier.isStatic(field.getModifiers())) {
                    parts++;
                    field.setAccessible(true);
                    reach(field.getType().isPrimitive() ? null : field.get(one), seen, open);
                }
            }
        }
        c.due("objects and arrays: " + seen.size() + ", of 600000", seen.size() < 1000, true);
        c.due("fields and elements: " + parts + ", of 7300000", parts < 30000, true);
    }

    private static void reach(Object one, Map<Object, Boolean> seen, ArrayDeque<Object> open) {
        if (one != null && seen.put(one, true) == null) {
            open.add(one);
        }
    }
}
