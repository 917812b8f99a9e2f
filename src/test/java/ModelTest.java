import java.util.ArrayDeque;
import java.util.ArrayList;
import java.util.List;
import java.util.Map;
import java.util.TreeMap;

/**
 * Random runs of calls, on the program and on a second model of the document that keeps all in objects and copies them
 * whole; every answer is compared, exceptions too.
 */
public final class ModelTest {
    private static final int RUNS = 600;
    private static final int CALLS = 512;
    private static final long[] SCRIPTS = {10001, 10007, 10020, 20004, 20102, 20206, 30000, 30100, 30200, 40002, 41003,
        42001, 43001, 44001, 50001, 50100, 60000, 60101, 60202, 60303, 70001, 70002, 70003, 80100, 80201, 81002, 90000};

    private long seed;
    private GripInspector x;
    private Model model;
    private String told;

    public static void main(String[] args) {
        for (int run = 0; run < RUNS; run++) new ModelTest().run(run);
        Check.end();
    }

    private void run(int number) {
        seed = 77L * number + 1;
        x = new GripInspector();
        model = new Model();
        for (int call = 0; call < CALLS; ) {
            int many = chance(25) ? typing() : 1;
            if (many == 1) {
                String[] outcomes = anyCall();
                if (!outcomes[0].equals(outcomes[1])) {
                    Check.same("run " + number + ", call " + call + ": " + told, outcomes[0], outcomes[1]);
                    return;
                }
            }
            call += many;
        }
        if (x.about(0) != model.now.n) return;
        Check.same("run " + number + ": report", Check.report(x), model.now.report());
    }

    private int below(int bound) {
        seed = seed * 6364136223846793005L + 1442695040888963407L;
        return (int) ((seed >>> 33) % bound);
    }

    private boolean chance(int of) {
        return below(of) == 0;
    }

    /** Mostly from low to high, at times around it, seldom far away. */
    private int number(int low, int high) {
        int kind = below(40);
        if (kind == 0) return below(2) == 0 ? Integer.MAX_VALUE : Integer.MIN_VALUE;
        if (kind < 4) return low - 1 + below(high - low + 3);
        return low + below(high - low + 1);
    }

    private int someGrip() {
        return number(0, Math.max(0, x.about(1) - 1));
    }

    private int typing() {
        String text = lift();
        x.clearText();
        model.text.setLength(0);
        for (int i = 0; i < text.length(); i++) {
            x.append(text.charAt(i));
            model.text.append(text.charAt(i));
        }
        Check.same("errorPosition() of " + text, x.errorPosition(), model.errorPosition());
        return text.length() + 2;
    }

    private String lift() {
        int n = 4 + below(17);
        StringBuilder text = new StringBuilder(String.format("L%02d%02d%02d", n, 1 + below(chance(2) ? 6 : 99),
            1 + below(chance(2) ? 9 : 50)));
        text.append(1 + below(9)).append(1 + below(4)).append(1 + below(9));
        int items = below(13);
        for (int i = 0; i < items; i++) {
            text.append(chance(3) ? "h" + below(4) : String.format("g%d%02d", below(4), i < n && !chance(20) ? i : below(n)));
        }
        if (chance(6)) text.setCharAt(below(text.length()), (char) below(256));
        return text.toString();
    }

    private String[] both(String call, java.util.function.LongSupplier one, java.util.function.LongSupplier other) {
        told = call;
        return new String[] {Check.outcome(one), Check.outcome(other)};
    }

    private String[] anyCall() {
        switch (below(5)) {
            case 0: return change();
            case 1: return action();
            case 2: return view();
            case 3: return question();
            default: return forecast();
        }
    }

    private String[] change() {
        switch (below(7)) {
            case 0:
                int c = number(0, 255);
                return both("append " + c, () -> x.append(c), () -> model.append(c));
            case 1: return both("load", x::load, model::load);
            case 2: return both("undo", x::undo, model::undo);
            case 3: return both("undo", x::undo, model::undo);
            case 4:
                int slot = number(0, 1);
                return both("save " + slot, () -> x.save(slot), () -> model.save(slot));
            case 5:
                int saved = number(0, 1);
                return both("restore " + saved, () -> x.restore(saved), () -> model.restore(saved));
            default:
                return chance(8) ? both("clearText", x::clearText, model::clearText)
                    : both("errorPosition", x::errorPosition, model::errorPosition);
        }
    }

    private String[] action() {
        int g = someGrip();
        switch (below(9)) {
            case 0:
            case 1:
                int m = chance(4) ? number(1, 99) : number(1, 9);
                return both("step " + m, () -> x.step(m), () -> model.step(m));
            case 2:
                int weight = number(0, 3);
                return both("addGrip " + weight, () -> x.addGrip(weight), () -> model.addGrip(weight));
            case 3:
                int i = number(0, x.about(0) - 1);
                return both("putOn " + g + " " + i, () -> x.putOn(g, i), () -> model.putOn(g, i));
            case 4: return both("takeOff " + g, () -> x.takeOff(g), () -> model.takeOff(g));
            case 5:
                if (!chance(4)) return view();
                return both("scrap " + g, () -> x.scrap(g), () -> model.scrap(g));
            case 6:
            case 7:
                int what = number(0, 4);
                int v = chance(2) ? number(1, 6) : number(1, new int[] {99, 50, 9, 4, 9}[Math.floorMod(what, 5)]);
                return both("setLimit " + what + " " + v, () -> x.setLimit(what, v), () -> model.setLimit(what, v));
            default:
                long random = chance(2) ? Check.stateBefore(below(400)) : (long) below(1 << 30) << below(34);
                return both("setRandom " + random, () -> x.setRandom(random), () -> model.setRandom(random));
        }
    }

    private String[] view() {
        switch (below(5)) {
            case 0:
                int what = number(0, 12);
                return both("about " + what, () -> x.about(what), () -> model.about(what));
            case 1:
                int g = someGrip();
                int which = number(0, 7);
                return both("grip " + g + " " + which, () -> x.grip(g, which), () -> model.grip(g, which));
            case 2:
                int i = number(0, x.about(0) - 1);
                return both("slot " + i, () -> x.slot(i), () -> model.slot(i));
            case 3: return both("random", x::random, () -> model.now.random);
            default:
                int at = number(0, 60);
                return both("report " + at, () -> x.report(at), () -> model.report(at));
        }
    }

    private String[] question() {
        int g = someGrip();
        int what = number(0, 2);
        switch (below(5)) {
            case 0: return both("gap " + g, () -> x.gap(g), () -> model.gap(g));
            case 1: return both("room " + what, () -> x.room(what), () -> model.room(what));
            case 2: return both("groups " + what, () -> x.groups(what), () -> model.groups(what));
            case 3: return both("dueAfter " + g, () -> x.dueAfter(g), () -> model.dueAfter(g));
            default:
                int passes = number(1, 9);
                boolean upper = chance(2);
                return both("chance " + passes + upper, () -> x.chance(passes, upper), () -> model.chance(passes, upper));
        }
    }

    private String[] forecast() {
        int m = number(1, 99);
        switch (below(6)) {
            case 0:
                int g = someGrip();
                int what = number(0, 7);
                int steps = number(0, 99);
                return both("ahead " + g + " " + steps + " " + what, () -> x.ahead(g, steps, what),
                    () -> model.ahead(g, steps, what));
            case 1:
                int which = number(0, 3);
                return both("happens " + m + " " + which, () -> x.happens(m, which), () -> model.happens(m, which));
            case 2:
                if (!chance(8)) return view();
                return both("bestLimit " + m, () -> x.bestLimit(m), () -> model.bestLimit(m));
            case 3: return both("emptyAfter", x::emptyAfter, model::emptyAfter);
            case 4:
                int n = number(1, 3);
                long script = script(n);
                return both("runScript " + n + " " + script, () -> x.runScript(n, script), () -> model.runScript(n, script));
            default:
                long random = (long) below(1 << 30) << below(34);
                return both("simulate " + random + " " + m, () -> x.simulate(random, m), () -> model.simulate(random, m));
        }
    }

    private long script(int n) {
        long script = 0;
        for (int i = 0; i < Math.min(3, Math.max(1, n)); i++) {
            long command = chance(3) ? below(100000) : SCRIPTS[below(SCRIPTS.length)];
            script = script * 100000 + command;
        }
        return chance(20) ? script * 10 : chance(20) ? -script : script;
    }

    private static IndexOutOfBoundsException noIndex() {
        return new IndexOutOfBoundsException();
    }

    private static IllegalArgumentException noArgument() {
        return new IllegalArgumentException();
    }

    private static IllegalStateException noState() {
        return new IllegalStateException();
    }

    private enum Place { LINE, GARAGE, WORKSHOP, SCRAPPED }

    private static final class Grip {
        int weight;
        int cycles;
        int wear;
        int pulls;
        Integer slip;
        Place place = Place.GARAGE;
        Integer slot;
        Integer left;

        Grip copy() {
            Grip other = new Grip();
            other.weight = weight;
            other.cycles = cycles;
            other.wear = wear;
            other.pulls = pulls;
            other.slip = slip;
            other.place = place;
            other.slot = slot;
            other.left = left;
            return other;
        }

        void goTo(Place where, Integer itsSlot, Integer itsLeft) {
            place = where;
            slot = itsSlot;
            left = itsLeft;
        }

        int number(int what) {
            Integer[] all = {weight, cycles, wear, pulls, slip, place.ordinal(), slot, left};
            return all[what] == null ? -9 : all[what];
        }
    }

    private static final class World {
        int n = 8;
        int[] limits = {10, 20, 4, 2, 3};
        int station;
        int clock;
        long random;
        List<Grip> grips = new ArrayList<>();
        int pulled;
        int due;
        int slipped;
        int put;

        World copy() {
            World other = new World();
            other.n = n;
            other.limits = limits.clone();
            other.station = station;
            other.clock = clock;
            other.random = random;
            for (Grip grip : grips) other.grips.add(grip.copy());
            return other;
        }

        World after(int m) {
            for (int i = 0; i < m; i++) step();
            return this;
        }

        long in(Place place) {
            return grips.stream().filter(grip -> grip.place == place).count();
        }

        Grip get(int g) {
            if (g < 0 || g >= grips.size()) throw noIndex();
            return grips.get(g);
        }

        int at(int slot) {
            for (int g = 0; g < grips.size(); g++) {
                if (grips.get(g).place == Place.LINE && grips.get(g).slot == slot) return g;
            }
            return -9;
        }

        int distance(int one, int other) {
            int steps = 0;
            while ((one + steps) % n != other && (other + steps) % n != one) steps++;
            return steps;
        }

        boolean free(int slot) {
            if (at(slot) >= 0) return false;
            return grips.stream().noneMatch(grip -> grip.place == Place.LINE && distance(grip.slot, slot) < limits[3]);
        }

        void step() {
            station = (station + 1) % n;
            random = random * 6364136223846793005L + 1442695040888963407L;
            int r = (int) (random >>> 33);
            List<Grip> before = new ArrayList<>(grips);
            before.removeIf(grip -> grip.place != Place.WORKSHOP);
            if (at(station) >= 0) pass(get(at(station)), r);
            for (Grip grip : before) {
                grip.left--;
                if (grip.left == 0) {
                    grip.cycles = 0;
                    grip.wear = 0;
                    grip.goTo(Place.GARAGE, null, null);
                }
            }
            if (free(station)) {
                grips.stream().filter(grip -> grip.place == Place.GARAGE)
                    .min((one, other) -> Integer.compare(one.cycles, other.cycles)).ifPresent(grip -> {
                        put++;
                        grip.goTo(Place.LINE, station, null);
                    });
            }
            clock++;
        }

        void pass(Grip grip, int r) {
            grip.cycles += 1;
            grip.wear += 1 + grip.weight;
            boolean isDue = grip.cycles >= limits[0];
            if (!isDue && r % limits[2] != 0) return;
            pulled++;
            grip.pulls++;
            grip.slip = grip.wear / 4 + (r / 16) % 5;
            if (isDue) due++;
            else if (grip.slip > limits[1]) slipped++;
            if (isDue || grip.slip > limits[1]) grip.goTo(Place.WORKSHOP, null, limits[4]);
        }

        String report() {
            List<String> parts = new ArrayList<>();
            for (Grip grip : grips) {
                String where = grip.place == Place.LINE ? "@" + grip.slot : grip.place == Place.GARAGE ? "g"
                    : grip.place == Place.WORKSHOP ? "w" + grip.left : "x";
                parts.add((char) ('a' + parts.size()) + where);
            }
            return String.join(" ", parts);
        }
    }

    private static final class Model {
        World now = new World();
        StringBuilder text = new StringBuilder();
        ArrayDeque<World> past = new ArrayDeque<>();
        World[] saved = new World[2];

        int append(int c) {
            if (c < 0 || c > 255) throw noArgument();
            if (text.length() == 60) throw noState();
            return text.append((char) c).length();
        }

        int clearText() {
            int length = text.length();
            text.setLength(0);
            return length;
        }

        int errorPosition() {
            World read = new World();
            return read(read);
        }

        /** Reads signs as long as some number, or some free slot, still begins with what stands there. */
        int read(World read) {
            List<Integer> fields = new ArrayList<>();
            int[][] ranges = {{4, 20}, {1, 99}, {1, 50}, {1, 9}, {1, 4}, {1, 9}};
            String all = text.toString();
            if (!all.startsWith("L")) return 0;
            int at = 1;
            for (int[] range : ranges) {
                List<String> allowed = new ArrayList<>();
                for (int v = range[0]; v <= range[1]; v++) allowed.add(String.format(range[1] > 9 ? "%02d" : "%d", v));
                int end = match(all, at, allowed);
                if (end < 0) return -end - 1;
                fields.add(Integer.parseInt(all.substring(at, end)));
                at = end;
            }
            read.n = fields.get(0);
            for (int i = 0; i < 5; i++) read.limits[i] = fields.get(i + 1);
            while (at < all.length()) {
                List<String> allowed = new ArrayList<>();
                for (int weight = 0; weight <= 3 && read.grips.size() < 12; weight++) {
                    allowed.add("h" + weight);
                    for (int i = 0; i < read.n; i++) {
                        if (read.at(i) < 0) allowed.add(String.format("g%d%02d", weight, i));
                    }
                }
                int end = match(all, at, allowed);
                if (end < 0) return -end - 1;
                Grip grip = new Grip();
                grip.weight = all.charAt(at + 1) - '0';
                if (all.charAt(at) == 'g') grip.goTo(Place.LINE, Integer.parseInt(all.substring(at + 2, end)), null);
                read.grips.add(grip);
                at = end;
            }
            return -9;
        }

        /** The end of the allowed piece at a place; else -1 minus the place where the signs leave all of them. */
        static int match(String all, int at, List<String> allowed) {
            for (int end = at + 1; end <= all.length(); end++) {
                String piece = all.substring(at, end);
                if (allowed.contains(piece)) return end;
                if (allowed.stream().noneMatch(one -> one.startsWith(piece))) return -(end - 1) - 1;
            }
            return -all.length() - 1;
        }

        int load() {
            World read = new World();
            if (read(read) != -9) throw noState();
            now = read;
            past.clear();
            saved = new World[2];
            return now.grips.size();
        }

        long about(int what) {
            if (what < 0 || what > 12) throw noArgument();
            if (what >= 8) return now.limits[what - 8];
            if (what >= 2 && what <= 5) return now.in(Place.values()[what - 2]);
            return what == 0 ? now.n : what == 1 ? now.grips.size() : what == 6 ? now.station : now.clock;
        }

        int grip(int g, int what) {
            Grip grip = now.get(g);
            if (what < 0 || what > 7) throw noArgument();
            return grip.number(what);
        }

        int slot(int i) {
            if (i < 0 || i >= now.n) throw noIndex();
            return now.at(i);
        }

        int report(int i) {
            if (i < 0) throw noArgument();
            String report = now.report();
            return i < report.length() ? report.charAt(i) : -9;
        }

        void remember() {
            past.push(now.copy());
            if (past.size() > 14) past.removeLast();
        }

        long step(int m) {
            if (m < 1 || m > 99) throw noArgument();
            remember();
            return now.after(m).in(Place.WORKSHOP);
        }

        int addGrip(int weight) {
            if (weight < 0 || weight > 3) throw noArgument();
            if (now.grips.size() == 12) throw noState();
            remember();
            Grip grip = new Grip();
            grip.weight = weight;
            now.grips.add(grip);
            return now.grips.size() - 1;
        }

        long putOn(int g, int i) {
            Grip grip = now.get(g);
            if (i < 0 || i >= now.n) throw noIndex();
            if (grip.place != Place.GARAGE || !now.free(i)) throw noState();
            remember();
            now.get(g).goTo(Place.LINE, i, null);
            return now.in(Place.LINE);
        }

        int takeOff(int g) {
            Grip grip = now.get(g);
            if (grip.place != Place.LINE) throw noState();
            remember();
            int slot = grip.slot;
            grip.goTo(Place.GARAGE, null, null);
            return slot;
        }

        int scrap(int g) {
            Grip grip = now.get(g);
            if (grip.place == Place.SCRAPPED) throw noState();
            remember();
            int place = grip.place.ordinal();
            grip.goTo(Place.SCRAPPED, null, null);
            return place;
        }

        int setLimit(int what, int v) {
            int[] greatest = {99, 50, 9, 4, 9};
            if (what < 0 || what > 4 || v < 1 || v > greatest[what]) throw noArgument();
            remember();
            int before = now.limits[what];
            now.limits[what] = v;
            return before;
        }

        long setRandom(long random) {
            remember();
            long before = now.random;
            now.random = random;
            return before;
        }

        int undo() {
            if (past.isEmpty()) throw noState();
            now = past.pop();
            return past.size();
        }

        int gapAt(int slot) {
            for (int gap = 1; ; gap++) {
                if (now.at((slot + gap) % now.n) >= 0) return gap;
            }
        }

        int gap(int g) {
            Grip grip = now.get(g);
            return grip.place == Place.LINE ? gapAt(grip.slot) : -9;
        }

        int room(int what) {
            if (what < 0 || what > 2) throw noArgument();
            if (what == 2) return now.n / now.limits[3];
            int free = 0;
            int smallest = -9;
            for (int i = 0; i < now.n; i++) {
                if (now.free(i)) free++;
                if (now.at(i) >= 0 && (smallest < 0 || gapAt(i) < smallest)) smallest = gapAt(i);
            }
            return what == 0 ? free : smallest;
        }

        int groups(int what) {
            if (what < 0 || what > 2) throw noArgument();
            Map<Integer, List<Integer>> groups = new TreeMap<>();
            for (int g = 0; g < now.grips.size(); g++) {
                Grip grip = now.grips.get(g);
                if (grip.place == Place.SCRAPPED) continue;
                groups.computeIfAbsent(grip.weight * 1000 + grip.cycles / 10, key -> new ArrayList<>()).add(g);
            }
            if (what == 0) return groups.size();
            int size = groups.values().stream().mapToInt(List::size).max().orElse(0);
            if (what == 1) return size;
            return groups.values().stream().filter(group -> group.size() == size).mapToInt(group -> group.get(0)).min()
                .orElse(-9);
        }

        int dueAfter(int g) {
            Grip grip = now.get(g);
            if (grip.place != Place.LINE) return -9;
            int cycles = grip.cycles;
            for (int steps = 1; ; steps++) {
                if ((now.station + steps) % now.n != grip.slot) continue;
                cycles++;
                if (cycles >= now.limits[0]) return steps;
            }
        }

        long chance(int passes, boolean upper) {
            if (passes < 1 || passes > 9) throw noArgument();
            long above = 1;
            long below = 1;
            for (int i = 0; i < passes; i++) {
                above *= now.limits[2] - 1;
                below *= now.limits[2];
            }
            long divisor = java.math.BigInteger.valueOf(above).gcd(java.math.BigInteger.valueOf(below)).longValue();
            return (upper ? above : below) / divisor;
        }

        int ahead(int g, int m, int what) {
            now.get(g);
            if (m < 0 || m > 99 || what < 0 || what > 7) throw noArgument();
            return now.copy().after(m).get(g).number(what);
        }

        int happens(int m, int what) {
            if (m < 1 || m > 99 || what < 0 || what > 3) throw noArgument();
            World then = now.copy().after(m);
            return new int[] {then.pulled, then.due, then.slipped, then.put}[what];
        }

        int bestLimit(int m) {
            if (m < 1 || m > 99) throw noArgument();
            int best = -9;
            for (int limit = 1; limit <= 99; limit++) {
                World then = now.copy();
                then.limits[0] = limit;
                if (then.after(m).slipped == 0) best = limit;
            }
            return best;
        }

        int emptyAfter() {
            World then = now.copy();
            for (int steps = 0; steps <= 150; steps++, then.step()) {
                if (then.in(Place.LINE) == 0) return steps;
            }
            return -9;
        }

        long simulate(long random, int m) {
            if (m < 1 || m > 99) throw noArgument();
            World then = now.copy();
            then.random = random;
            then.after(m);
            return 100L * then.grips.stream().mapToInt(grip -> grip.pulls).sum() + then.in(Place.LINE);
        }

        int runScript(int n, long script) {
            if (n < 1 || n > 3 || script < 0 || String.valueOf(script).length() > 5 * n) throw noArgument();
            String digits = String.format("%0" + 5 * n + "d", script);
            Model then = new Model();
            then.now = now.copy();
            for (int i = 0; i < n; i++) {
                if (!then.obeys(digits.substring(5 * i, 5 * i + 5))) return i;
            }
            return -9;
        }

        boolean obeys(String group) {
            int gg = Integer.parseInt(group.substring(1, 3));
            int xy = Integer.parseInt(group.substring(3));
            try {
                if (group.matches("100..")) return step(xy) >= 0;
                if (group.startsWith("2")) return putOn(gg, xy) >= 0;
                if (group.matches("3..00")) return takeOff(gg) >= 0;
                if (group.matches("4.0..")) return setLimit(gg / 10, xy) >= 0;
                if (group.startsWith("5")) return grip(gg, 1) == xy;
                if (group.matches("6..0[0-3]")) return grip(gg, 5) == xy;
                if (group.matches("700..")) return about(2) == xy;
                if (group.startsWith("8")) return now.get(xy) != null && slot(gg) == xy;
                return false;
            } catch (RuntimeException e) {
                return false;
            }
        }

        int save(int slot) {
            if (slot < 0 || slot > 1) throw noIndex();
            saved[slot] = now.copy();
            return now.clock;
        }

        int restore(int slot) {
            if (slot < 0 || slot > 1) throw noIndex();
            if (saved[slot] == null) throw noState();
            now = saved[slot].copy();
            past.clear();
            return now.clock;
        }
    }
}
