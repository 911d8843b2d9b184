import java.util.ArrayList;
import java.util.HashMap;
import java.util.HashSet;
import java.util.List;
import java.util.Map;
import java.util.NoSuchElementException;
import java.util.Set;

/** The document once more, as near to its words as can be and without regard to speed, for RandomTest. */
final class PlainModel {
    private record Operation(int kind, int x, int y, int z) {
    }

    private record Thing(int type, Object[] fields) {
    }

    private static final class Trap extends RuntimeException {
        private static final long serialVersionUID = 1L;
        private final int number;

        Trap(int number) {
            this.number = number;
        }
    }

    private final List<Integer> parents = new ArrayList<>(List.of(-1));
    private final Map<List<Integer>, List<Operation>> bodies = new HashMap<>();
    private Set<Integer> made = new HashSet<>();
    private Set<List<Integer>> reached = new HashSet<>();
    private final Map<Operation, Integer> sites = new java.util.IdentityHashMap<>();
    private final List<Integer> outs = new ArrayList<>();
    private final int[] counts = new int[6];
    private boolean shapedRun;
    private int room;
    private int frames;

    int type(int parent) {
        demand(parent >= -1 && parent < parents.size());
        if (parents.size() == 6) {
            throw new IllegalStateException();
        }
        parents.add(parent);
        return parents.size() - 1;
    }

    int operation(int type, int selector, int kind, int x, int y, int z) {
        demand(isBody(type, selector) && kind >= 0 && kind <= 11 && x >= 0 && x <= 5);
        boolean registerY = List.of(1, 2, 3, 5, 6, 7).contains(kind);
        demand(!registerY || y >= 0 && y <= 5);
        demand(kind != 2 && kind != 3 || z >= 0 && z <= 5);
        demand(kind != 5 && kind != 6 || z >= 0 && z <= 2);
        demand(kind != 7 || z >= 0 && z <= 3);
        demand(kind != 4 && kind != 10 || y >= 0 && y <= 5);
        demand(kind != 9 || y >= 0 && y <= 9);
        List<Operation> body = bodies.computeIfAbsent(List.of(type, selector), key -> new ArrayList<>());
        if (body.size() == 10) {
            throw new IllegalStateException();
        }
        body.forEach(sites::remove);
        body.add(new Operation(kind, x, y, z));
        return body.size();
    }

    int strip(int type, int selector) {
        demand(isBody(type, selector));
        List<Operation> body = bodies.remove(List.of(type, selector));
        return body == null ? 0 : body.size();
    }

    private boolean isBody(int type, int selector) {
        return type >= 0 && type < parents.size() && selector >= 0 && selector <= 3;
    }

    private static void demand(boolean holds) {
        if (!holds) {
            throw new IllegalArgumentException();
        }
    }

    private int parent(int type) {
        return type < parents.size() ? parents.get(type) : -1;
    }

    private List<Integer> target(int type, int selector) {
        if (type == -1) {
            return null;
        }
        List<Integer> own = List.of(type, selector);
        return bodies.containsKey(own) ? own : target(parent(type), selector);
    }

    int shape() {
        made = new HashSet<>(Set.of(0));
        reached = new HashSet<>();
        if (target(0, 0) != null) {
            reached.add(target(0, 0));
        }
        int before;
        do {
            before = made.size() + reached.size();
            for (List<Integer> method : new ArrayList<>(reached)) {
                for (Operation o : bodies.get(method)) {
                    if (o.kind == 4) {
                        made.add(o.y);
                    }
                    if (o.kind == 7) {
                        reached.addAll(targets(o.z));
                    }
                }
            }
        } while (before != made.size() + reached.size());
        sites.clear();
        for (List<Integer> method : reached) {
            List<Operation> body = bodies.get(method);
            for (Operation o : body) {
                sites.put(o, o.kind == 7 ? siteOfCall(o) : o.kind == 4 ? getsOut(o, body) ? 6 : 5 : 0);
            }
        }
        return reached.size();
    }

    private Set<List<Integer>> targets(int selector) {
        Set<List<Integer>> all = new HashSet<>();
        for (int type : made) {
            all.add(target(type, selector));
        }
        all.remove(null);
        return all;
    }

    private int siteOfCall(Operation call) {
        Set<List<Integer>> all = targets(call.z);
        if (all.size() != 1) {
            return all.isEmpty() ? 4 : 1;
        }
        List<Operation> body = bodies.get(all.iterator().next());
        return body.size() <= 3 && body.stream().noneMatch(o -> o.kind == 7 || o.kind == 9) ? 3 : 2;
    }

    private static boolean getsOut(Operation made, List<Operation> body) {
        Set<Integer> holders = new HashSet<>(Set.of(made.x));
        int before;
        do {
            before = holders.size();
            body.stream().filter(o -> o.kind == 1 && holders.contains(o.y)).forEach(o -> holders.add(o.x));
        } while (holders.size() != before);
        for (Operation o : body) {
            if ((o.kind == 6 || o.kind == 7) && holders.contains(o.y) || o.kind == 11 && holders.contains(o.x)
                    || o.kind == 7 && holders.contains(5)) {
                return true;
            }
        }
        return false;
    }

    int reach() {
        int bits = 0;
        for (int type : made) {
            bits |= 1 << type;
        }
        for (List<Integer> method : reached) {
            bits |= 1 << 8 + 4 * method.get(0) + method.get(1);
        }
        return bits;
    }

    int site(int type, int selector, int k) {
        List<Operation> body = bodies.get(List.of(type, selector));
        if (body == null || k < 0 || k >= body.size()) {
            throw new NoSuchElementException();
        }
        return sites.getOrDefault(body.get(k), 0);
    }

    int run(boolean shaped, int heap) {
        demand(heap >= 0 && heap <= 60);
        shapedRun = shaped;
        room = heap;
        frames = 0;
        outs.clear();
        java.util.Arrays.fill(counts, 0);
        try {
            Thing self = newThing(0, false);
            trapIf(target(0, 0) == null, 6);
            counts[3]++;
            method(target(0, 0), self, 0);
            return 0;
        } catch (Trap trap) {
            return trap.number;
        }
    }

    private static void trapIf(boolean holds, int number) {
        if (holds) {
            throw new Trap(number);
        }
    }

    private Thing newThing(int type, boolean local) {
        if (!local) {
            trapIf(counts[1] == room, 3);
            counts[1]++;
        }
        return new Thing(type, new Object[] {0, 0, 0});
    }

    private Object method(List<Integer> method, Thing self, Object argument) {
        frames++;
        counts[5] = Math.max(counts[5], frames);
        Object[] r = {self, argument, 0, 0, 0, 0};
        List<Operation> body = bodies.get(method);
        Object answer = 0;
        for (int k = 0; k < body.size(); k++) {
            trapIf(counts[4] == 400, 5);
            counts[4]++;
            Operation o = body.get(k);
            if (o.kind == 11) {
                answer = r[o.x];
                break;
            }
            if (o.kind == 9) {
                k += r[o.x].equals(0) ? o.y : 0;
            } else {
                perform(o, r);
            }
        }
        frames--;
        return answer;
    }

    private void perform(Operation o, Object[] r) {
        switch (o.kind) {
            case 0 -> r[o.x] = o.y;
            case 1 -> r[o.x] = r[o.y];
            case 2 -> r[o.x] = number(r[o.y]) + number(r[o.z]);
            case 3 -> r[o.x] = number(r[o.y]) < number(r[o.z]) ? 1 : 0;
            case 4 -> r[o.x] = newThing(o.y, siteInRun(o) == 5);
            case 5 -> r[o.x] = thing(r[o.y]).fields[o.z];
            case 6 -> thing(r[o.x]).fields[o.z] = r[o.y];
            case 7 -> r[o.x] = call(o, thing(r[o.y]), r[5]);
            case 8 -> {
                trapIf(outs.size() == 40, 7);
                outs.add(r[o.x] instanceof Thing thing ? Integer.valueOf(1000 + thing.type) : (Integer) r[o.x]);
                counts[0]++;
            }
            default -> {
                int type = thing(r[o.x]).type;
                while (type != -1 && type != o.y) {
                    type = parent(type);
                }
                trapIf(type == -1, 2);
            }
        }
    }

    private int siteInRun(Operation o) {
        return shapedRun ? sites.getOrDefault(o, 0) : 0;
    }

    private Object call(Operation o, Thing self, Object argument) {
        List<Integer> target = target(self.type, o.z);
        trapIf(target == null, 6);
        trapIf(frames == 12, 4);
        int site = siteInRun(o);
        counts[2] += site == 2 || site == 3 ? 0 : 1;
        counts[3] += site == 3 ? 0 : 1;
        return method(target, self, argument);
    }

    private static int number(Object value) {
        trapIf(!(value instanceof Integer), 1);
        return (Integer) value;
    }

    private static Thing thing(Object value) {
        trapIf(!(value instanceof Thing), 1);
        return (Thing) value;
    }

    int count(int what) {
        if (what < 0 || what > 5) {
            throw new NoSuchElementException();
        }
        return counts[what];
    }

    int out(int k) {
        if (k < 0 || k >= outs.size()) {
            throw new NoSuchElementException();
        }
        return outs.get(k);
    }
}
