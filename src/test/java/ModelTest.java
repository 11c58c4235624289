import java.lang.reflect.Method;
import java.util.Random;

/** Runs of 500 calls on a StalkRoom and on the Model, held against each other; the same runs each time. */
public final class ModelTest {
    private static final int RUNS = 600, CALLS = 500;
    private static final Class<?> B = boolean.class, I = int.class, L = long.class;

    /** A call, how often it comes, and the least and the most that each of its ints mostly is. */
    private record Call(String name, int often, Class<?>[] types, int... ranges) { }

    private static Class<?>[] of(Class<?>... types) {
        return types;
    }

    private static final Call[] CALLS_OF_ALL = {
        new Call("caster", 1, of(B)),
        new Call("stalks", 2, of(I, I, B), 3, 61, 1, 9),
        new Call("thumb", 2, of(I, I, B, I, I), 3, 61, 1, 9, 0, 30, 1, 60),
        new Call("told", 1, of(I, I), -1, 10, -1, 4),
        new Call("mark", 3, of(I, I), -1, 10, 0, 4),
        new Call("part", 3, of(I, I, I), -1, 10, -1, 61, 0, 60),
        new Call("line", 3, of(I, I, I, I), -1, 10, 0, 30, 0, 20, 0, 20),
        new Call("odds", 4, of(I, I), -1, 10, -1, 31),
        new Call("mean", 4, of(I), -1, 10),
        new Call("drawn", 4, of(I, L), -1, 10),
        new Call("set", 4, of(I, I, I), -1, 8, -1, 6, 5, 10),
        new Call("get", 2, of(I, I), -1, 8, -1, 6),
        new Call("draw", 4, of(I, I, L), -1, 8, -1, 10),
        new Call("number", 2, of(I), -1, 8),
        new Call("act", 4, of(I, I, I), -1, 8, -1, 4, -1, 8),
        new Call("way", 3, of(I, I, I), -1, 64, -1, 64, -1, 512),
        new Call("step", 4, of(I), -1, 7),
        new Call("row", 1, of(I, I), -1, 4, -2, 65),
        new Call("lay", 20, of(I, I, I), -1, 4, -1, 12, -4, 70),
        new Call("tear", 1, of(I), -1, 4),
        new Call("copy", 4, of(I, I, I, I, I), -1, 4, -1, 30, -1, 4, -1, 30, -1, 30),
        new Call("misfits", 4, of(I, I), -1, 4, -1, 3),
        new Call("follows", 4, of(I), -1, 4),
        new Call("lacks", 2, of(I), -1, 4),
        new Call("swapped", 4, of(I, I), -1, 4, -1, 3),
        new Call("record", 2, of(I, I, L, I), -1, 4, -1, 10, -1, 65),
        new Call("off", 4, of(I, I), -1, 4, -1, 10),
        new Call("nearest", 4, of(I), -1, 4),
        new Call("lost", 4, of(I, I), -1, 4, -1, 10),
        new Call("need", 4, of(I, I), -1, 10, -1, 10),
        new Call("asked", 4, of()),
        new Call("upper", 4, of()),
        new Call("lower", 4, of()),
        new Call("count", 2, of(I), -1, 3),
        new Call("finding", 4, of()),
        new Call("findings", 4, of(I), 0, 6),
        new Call("digest", 4, of()),
    };

    private ModelTest() { }

    public static void main(String[] args) throws ReflectiveOperationException {
        Random random = new Random(49);
        for (int run = 0; run < RUNS; run++) {
            oneRun(run, random);
        }
        shortLists(random);
        everyBundle(random);
        Due.end();
    }

    private static void oneRun(int run, Random random) throws ReflectiveOperationException {
        StalkRoom room = new StalkRoom();
        Model model = new Model();
        for (int i = 0; i < CALLS; i++) {
            Call call = pick(random);
            Object[] values = values(call, random);
            long got = answer(StalkRoom.class, room, call, values);
            long want = answer(Model.class, model, call, values);
            Due.due("run " + run + ", call " + i + ": " + call.name + java.util.Arrays.toString(values), got, want);
        }
    }

    private static long answer(Class<?> of, Object on, Call call, Object[] values) throws ReflectiveOperationException {
        Method method = of.getMethod(call.name, call.types);
        return ((Number) method.invoke(on, values)).longValue();
    }

    private static Call pick(Random random) {
        int sum = 0;
        for (Call call : CALLS_OF_ALL) {
            sum += call.often;
        }
        int at = random.nextInt(sum);
        int i = 0;
        while (at >= CALLS_OF_ALL[i].often) {
            at -= CALLS_OF_ALL[i].often;
            i++;
        }
        return CALLS_OF_ALL[i];
    }

    private static Object[] values(Call call, Random random) {
        Object[] values = new Object[call.types.length];
        int at = 0;
        for (int i = 0; i < values.length; i++) {
            if (call.types[i] == B) {
                values[i] = random.nextBoolean();
            } else if (call.types[i] == L) {
                values[i] = random.nextInt(3) == 0 ? (long) random.nextInt(20) - 10 : random.nextLong();
            } else {
                values[i] = number(call.ranges[at], call.ranges[at + 1], random);
                at += 2;
            }
        }
        return values;
    }

    private static int number(int least, int most, Random random) {
        int rare = random.nextInt(400);
        if (rare < 4) {
            return new int[] {Integer.MIN_VALUE, Integer.MAX_VALUE, -1000000, 1000000}[rare];
        }
        return least + random.nextInt(most - least + 1);
    }

    /** Lists that nearly follow an order, with leaves gone, swapped or astray: chance alone seldom makes them. */
    private static void shortLists(Random random) {
        for (int run = 0; run < 4000; run++) {
            StalkRoom room = new StalkRoom();
            Model model = new Model();
            int size = random.nextInt(10) == 0 ? 64 : random.nextInt(12);
            byte[] list = nearList(run % 3, size, random);
            room.row(0, size);
            model.row(0, size);
            for (int i = 0; i < size; i++) {
                room.lay(0, i, list[i]);
                model.lay(0, i, list[i]);
            }
            for (int order = 0; order < 3; order++) {
                String of = "of " + java.util.Arrays.toString(list) + ", order " + order;
                Due.due("misfits " + of, room.misfits(0, order), model.misfits(0, order));
                Due.due("swapped " + of, room.swapped(0, order), model.swapped(0, order));
            }
            Due.due("follows", room.follows(0), model.follows(0));
            Due.due("its asked()", room.asked(), model.asked());
            Due.due("lacks", room.lacks(0), model.lacks(0));
            Due.due("its asked()", room.asked(), model.asked());
            Due.due("digest()", room.digest(), model.digest());
        }
    }

    private static byte[] nearList(int order, int size, Random random) {
        byte[] list = new byte[size];
        for (int i = 0; i < size; i++) {
            int turned = Integer.reverse(i) >>> 26;
            list[i] = (byte) (order == 0 ? i : order == 1 ? turned : random.nextInt(64));
            if (order == 2 && i % 2 == 1) {
                int back = Integer.reverse(list[i - 1]) >>> 26;
                list[i] = (byte) (back == list[i - 1] ? 63 - back : back);
            }
        }
        for (int slip = random.nextInt(4); slip > 0 && size > 0; slip--) {
            int i = random.nextInt(size);
            int j = random.nextInt(size);
            byte kept = list[i];
            list[i] = random.nextInt(3) == 0 ? (byte) (64 + random.nextInt(192)) : list[j];
            list[j] = kept;
        }
        return list;
    }

    /** Every number of stalks with every k, with a finger and without, and a thumb of each. */
    private static void everyBundle(Random random) {
        for (int n = 4; n <= 60; n++) {
            for (int k = 2; k <= 8; k++) {
                for (int finger = 0; finger < 2; finger++) {
                    int lo = 1 + random.nextInt(n);
                    int hi = Math.min(59, lo + random.nextInt(20));
                    StalkRoom room = new StalkRoom();
                    Model model = new Model();
                    room.stalks(n, k, finger == 1);
                    model.stalks(n, k, finger == 1);
                    Due.due("thumb", room.thumb(n, k, finger == 1, Math.min(lo, hi), hi),
                        model.thumb(n, k, finger == 1, Math.min(lo, hi), hi));
                    String of = " of " + n + " by " + k + ", finger " + finger + ", " + lo + " to " + hi;
                    sameOdds(of, room, model);
                }
            }
        }
    }

    private static void sameOdds(String of, StalkRoom room, Model model) {
        for (int c = 0; c < 2; c++) {
            for (int v = 0; v <= 31; v++) {
                // The mean stands behind the odds of 30.
                int got = v == 31 ? room.mean(c) : room.odds(c, v);
                int want = v == 31 ? model.mean(c) : model.odds(c, v);
                Due.due("line " + v + of, got, want);
                Due.due("upper(), line " + v + of, room.upper(), model.upper());
                Due.due("lower(), line " + v + of, room.lower(), model.lower());
            }
        }
    }
}
